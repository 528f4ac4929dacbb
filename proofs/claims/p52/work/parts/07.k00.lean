noncomputable def fX6_length (N : Nat) (i_this : Int32) : Option (Int32) := (some i_this)
set_option maxHeartbeats 4000000 in
set_option maxRecDepth 100000 in
theorem kX6_length (l : Launch) (dC : Nat → ClassId) (dI : Nat → Nat → Nat) (cI cJ cB : ClassId) (h_this h_this_signs : Nat) (N : Nat) (i_this : Int32) (r : Int32) (hf : fX6_length N i_this = some r) : MI l yX6_length (kws yX6_length cX6_length 1 (some .int)) (kR 0 0) (dC, dI) (kT cI cJ cB) [.ref h_this] [cl_X6 h_this h_this_signs i_this] [cl_X6 h_this h_this_signs i_this] r := by
  refine MI.of (cc := cX6_length) (maxL := 1) (by decide) (Nat.le_of_ble_eq_true rfl) (fun p e s m args below meth c A Q ls KC hN hK hP hD hA hl hEnd => ?_)
  obtain ⟨hx, hb, hml, hown, hts⟩ := KC
  have hown : s.vm.findClass "DateSpans$Text" = some m.cls := hown
  have hl : lv_has ls 1 [(0, .ref h_this)] := hl
  have hS : va_S A s.heap s.heap [] := va_S.rf
  have h := hf
  unfold fX6_length at h
  refine lv_aload_n hx hb dX6_length_0 rfl (lv_at hl 0 rfl) ?_
  refine va_get (D := (dC, dI)) (ci := 5) (v := .int i_this) (C := RX6) (T := TX6) (N := 2) hx hb hts inX6 hown hK hP 0 rfl rfl 1 (by decide) (hts _ (kq q_85 rfl)) (fun _ h9 => h9) rfl dX6_length_1 ?_
  obtain rfl := pj1 h
  exact hEnd _ _ _ _ hP hS dX6_length_4 rfl
noncomputable def fX6_put (N : Nat) (p1 : Int32) (i_this : Int32) (f_this_signs : Nat → Int32) : Option (Int32 × (Nat → Int32)) := (if i_this < (0 : Int32) then (some (i_this, f_this_signs)) else (if (100 : Int32) ≤ i_this then (some (i_this, f_this_signs)) else (gi i_this 100 (some ((i_this + (1 : Int32)), (upd f_this_signs i_this.toNatClampNeg p1))))))
set_option maxHeartbeats 4000000 in
set_option maxRecDepth 100000 in
theorem kX6_put (l : Launch) (dC : Nat → ClassId) (dI : Nat → Nat → Nat) (cI cJ cB : ClassId) (h_this h_this_signs : Nat) (N : Nat) (p1 : Int32) (i_this : Int32) (f_this_signs : Nat → Int32) (o_i_this : Int32) (o_f_this_signs : Nat → Int32) (hf : fX6_put N p1 i_this f_this_signs = some (o_i_this, o_f_this_signs)) : MV l yX6_put (kws yX6_put cX6_put 2 (none)) (kR 0 0) (dC, dI) (kT cI cJ cB) [.ref h_this, .int p1] [cl_X6 h_this h_this_signs i_this, (h_this_signs, .inl (cI, 100, .inl f_this_signs))] [cl_X6 h_this h_this_signs o_i_this, (h_this_signs, .inl (cI, 100, .inl o_f_this_signs))] := by
  refine MV.of (cc := cX6_put) (maxL := 2) (by decide) (Nat.le_of_ble_eq_true rfl) (fun p e s m args below meth c A Q ls KC hN hK hP hD hA hl hEnd => ?_)
  obtain ⟨hx, hb, hml, hown, hts⟩ := KC
  have hown : s.vm.findClass "DateSpans$Text" = some m.cls := hown
  have hl : lv_has ls 2 [(0, .ref h_this), (1, .int p1)] := hl
  have hS : va_S A s.heap s.heap [] := va_S.rf
  have h := hf
  unfold fX6_put at h
  refine lv_aload_n hx hb dX6_put_0 rfl (lv_at hl 0 rfl) ?_
  refine va_get (D := (dC, dI)) (ci := 5) (v := .int i_this) (C := RX6) (T := TX6) (N := 2) hx hb hts inX6 hown hK hP 0 rfl rfl 1 (by decide) (hts _ (kq q_85 rfl)) (fun _ h9 => h9) rfl dX6_put_1 ?_
  refine lv_if_lt (tgt := 39) hx hb dX6_put_4 (by decide) (fun c1 => ?_) (fun c1 => ?_)
  · have h := ite_t c1 h
    obtain ⟨rfl, rfl⟩ := pj2 h
    exact hEnd _ _ _ _ hP hS dX6_put_39
  have h := ite_f c1 h
  refine lv_aload_n hx hb dX6_put_7 rfl (lv_at hl 0 rfl) ?_
  refine va_get (D := (dC, dI)) (ci := 5) (v := .int i_this) (C := RX6) (T := TX6) (N := 2) hx hb hts inX6 hown hK hP 0 rfl rfl 1 (by decide) (hts _ (kq q_85 rfl)) (fun _ h9 => h9) rfl dX6_put_8 ?_
  refine lv_aload_n hx hb dX6_put_11 rfl (lv_at hl 0 rfl) ?_
  refine va_get (D := (dC, dI)) (ci := 5) (v := .ref h_this_signs) (C := RX6) (T := TX6) (N := 2) hx hb hts inX6 hown hK hP 0 rfl rfl 0 (by decide) (hts _ (kq q_84 rfl)) (fun _ h9 => h9) rfl dX6_put_12 ?_
  refine va_alen (v := (100 : Int32)) hx hb hK hP 1 0 rfl (ty := .int) rfl (show Int32.ofNat 100 = (100 : Int32) by decide) dX6_put_15 ?_
  refine lv_icmp_ge (tgt := 39) hx hb dX6_put_16 (by decide) (fun c2 => ?_) (fun c2 => ?_)
  · have h := ite_t c2 h
    obtain ⟨rfl, rfl⟩ := pj2 h
    exact hEnd _ _ _ _ hP hS dX6_put_39
  have h := ite_f c2 h
  refine lv_aload_n hx hb dX6_put_19 rfl (lv_at hl 0 rfl) ?_
  refine va_get (D := (dC, dI)) (ci := 5) (v := .ref h_this_signs) (C := RX6) (T := TX6) (N := 2) hx hb hts inX6 hown hK hP 0 rfl rfl 0 (by decide) (hts _ (kq q_84 rfl)) (fun _ h9 => h9) rfl dX6_put_20 ?_
  refine lv_aload_n hx hb dX6_put_23 rfl (lv_at hl 0 rfl) ?_
  refine va_get (D := (dC, dI)) (ci := 5) (v := .int i_this) (C := RX6) (T := TX6) (N := 2) hx hb hts inX6 hown hK hP 0 rfl rfl 1 (by decide) (hts _ (kq q_85 rfl)) (fun _ h9 => h9) rfl dX6_put_24 ?_
  refine lv_iload_n hx hb dX6_put_27 rfl (lv_at hl 1 rfl) ?_
  obtain ⟨hi3, h⟩ := gi_at h
  refine va_iast hx hb hK hP hD hS 1 0 rfl rfl hi3 dX6_put_28 (fun H locs hP hD hS => ?_)
  have hP : va_P (dC, dI) vwCl [cl_X6 h_this h_this_signs i_this, (h_this_signs, .inl (cI, 100, .inl (upd f_this_signs i_this.toNatClampNeg p1)))] H := hP
  have hD : va_D A [cl_X6 h_this h_this_signs i_this, (h_this_signs, .inl (cI, 100, .inl (upd f_this_signs i_this.toNatClampNeg p1)))] := hD
  refine lv_aload_n hx hb dX6_put_29 rfl (lv_at hl 0 rfl) ?_
  refine lv_dup hx hb dX6_put_30 rfl ?_
  refine va_get (D := (dC, dI)) (ci := 5) (v := .int i_this) (C := RX6) (T := TX6) (N := 2) hx hb hts inX6 hown hK hP 0 rfl rfl 1 (by decide) (hts _ (kq q_85 rfl)) (fun _ h9 => h9) rfl dX6_put_31 ?_
  refine lv_iconst (v := (1 : Int32)) hx hb dX6_put_34 (by decide) ?_
  refine lv_iadd hx hb dX6_put_35 ?_
  refine va_put (D := (dC, dI)) (ci := 5) (v := .int (i_this + (1 : Int32))) (ty := .int) (C := RX6) (T := TX6) (N := 2) hx hb hts inX6 tyX6 tyX6_ok nmX6 hown hK hP hD hS 0 rfl rfl 1 (by decide) (hts _ (kq q_85 rfl)) (fun _ h9 => h9) rfl (by decide +kernel) rfl rfl (Nat.le_of_ble_eq_true rfl) dX6_put_36 (fun H locs hP hD hS => ?_)
  have hP : va_P (dC, dI) vwCl [cl_X6 h_this h_this_signs (i_this + (1 : Int32)), (h_this_signs, .inl (cI, 100, .inl (upd f_this_signs i_this.toNatClampNeg p1)))] H := hP
  have hD : va_D A [cl_X6 h_this h_this_signs (i_this + (1 : Int32)), (h_this_signs, .inl (cI, 100, .inl (upd f_this_signs i_this.toNatClampNeg p1)))] := hD
  obtain ⟨rfl, rfl⟩ := pj2 h
  exact hEnd _ _ _ _ hP hS dX6_put_39
noncomputable def fX9_sign (N : Nat) (p1 : Int32) (i_this : Int32) (i_this_text : Int32) (f_this_text_signs : Nat → Int32) : Option (Int32 × Int32 × (Nat → Int32)) := (bd1 (fX6_length N i_this_text) fun r1 => (if (r1 + (4 : Int32)) ≤ (100 : Int32) then (bd2 (fX6_put N (((p1.toUInt32 >>> ((24 : Int32).toUInt32 &&& Int32.toUInt32 31)).toInt32) &&& (255 : Int32)) i_this_text f_this_text_signs) fun i_this_text_4 f_this_text_signs_5 => (bd2 (fX6_put N (((p1.toUInt32 >>> ((16 : Int32).toUInt32 &&& Int32.toUInt32 31)).toInt32) &&& (255 : Int32)) i_this_text_4 f_this_text_signs_5) fun i_this_text_7 f_this_text_signs_8 => (bd2 (fX6_put N (((p1.toUInt32 >>> ((8 : Int32).toUInt32 &&& Int32.toUInt32 31)).toInt32) &&& (255 : Int32)) i_this_text_7 f_this_text_signs_8) fun i_this_text_10 f_this_text_signs_11 => (bd2 (fX6_put N (p1 &&& (255 : Int32)) i_this_text_10 f_this_text_signs_11) fun i_this_text_13 f_this_text_signs_14 => (bd1 (fX6_length N i_this_text_13) fun r16 => (some (r16, i_this_text_13, f_this_text_signs_14))))))) else (some ((-1 : Int32), i_this_text, f_this_text_signs))))
set_option maxHeartbeats 4000000 in
set_option maxRecDepth 100000 in
theorem kX9_sign (l : Launch) (dC : Nat → ClassId) (dI : Nat → Nat → Nat) (cI cJ cB : ClassId) (h_this h_this_now h_this_kept h_this_told h_this_text h_this_script h_this_momentReader h_this_spanReader h_this_adder h_this_other h_this_trial h_this_ways h_this_text_signs : Nat) (N : Nat) (p1 : Int32) (i_this : Int32) (i_this_text : Int32) (f_this_text_signs : Nat → Int32) (r : Int32) (o_i_this_text : Int32) (o_f_this_text_signs : Nat → Int32) (hf : fX9_sign N p1 i_this i_this_text f_this_text_signs = some (r, o_i_this_text, o_f_this_text_signs)) : MI l yX9_sign (kws yX9_sign cX9_sign 2 (some .int)) (kR 1 21) (dC, dI) (kT cI cJ cB) [.ref h_this, .int p1] [cl_X9 h_this h_this_now h_this_kept h_this_told h_this_text h_this_script h_this_momentReader h_this_spanReader h_this_adder h_this_other h_this_trial h_this_ways i_this, cl_X6 h_this_text h_this_text_signs i_this_text, (h_this_text_signs, .inl (cI, 100, .inl f_this_text_signs))] [cl_X9 h_this h_this_now h_this_kept h_this_told h_this_text h_this_script h_this_momentReader h_this_spanReader h_this_adder h_this_other h_this_trial h_this_ways i_this, cl_X6 h_this_text h_this_text_signs o_i_this_text, (h_this_text_signs, .inl (cI, 100, .inl o_f_this_text_signs))] r := by
  refine MI.of (cc := cX9_sign) (maxL := 2) (by decide) (Nat.le_of_ble_eq_true rfl) (fun p e s m args below meth c A Q ls KC hN hK hP hD hA hl hEnd => ?_)
  obtain ⟨hx, hb, hml, hown, hts⟩ := KC
  have hown : s.vm.findClass "DateSpans" = some m.cls := hown
  have hl : lv_has ls 2 [(0, .ref h_this), (1, .int p1)] := hl
  have hS : va_S A s.heap s.heap [] := va_S.rf
  have h := hf
  unfold fX9_sign at h
  refine lv_aload_n hx hb dX9_sign_0 rfl (lv_at hl 0 rfl) ?_
  refine va_get (D := (dC, dI)) (ci := 8) (v := .ref h_this_text) (C := RX9) (T := TX9) (N := 12) hx hb hts inX9 hown hK hP 0 rfl rfl 4 (by decide) (hts _ (kq q_230 rfl)) (fun _ h9 => h9) rfl dX9_sign_1 ?_
  obtain ⟨r1, hc2, h⟩ := bd1_at h
  refine kjI (kV (own := "DateSpans") (C := "DateSpans$Text") (b := h_this_text) (As := []) (rest := []) ⟨hx, hb, hml, hown, hts⟩ (kX6_length l dC dI cI cJ cB h_this_text h_this_text_signs N i_this_text r1 hc2 _) (kgV (kq q_712 rfl) (kq q_713 rfl) (kq q_714 rfl) (kq q_21 rfl) (kq q_715 rfl)) yd_X6_length ⟨Nat.le_of_ble_eq_true rfl, Nat.le_of_ble_eq_true rfl⟩ hN hK hP hD [1] rfl rfl (ci := 5) rfl rfl rfl rfl rfl hl.1 rfl (lv_room (Nat.le_of_ble_eq_true rfl)) dX9_sign_4) hP hD hS hA [1] rfl rfl (fun H locs hP hD hS => ?_)
  have hP : va_P (dC, dI) vwCl [cl_X9 h_this h_this_now h_this_kept h_this_told h_this_text h_this_script h_this_momentReader h_this_spanReader h_this_adder h_this_other h_this_trial h_this_ways i_this, cl_X6 h_this_text h_this_text_signs i_this_text, (h_this_text_signs, .inl (cI, 100, .inl f_this_text_signs))] H := hP
  have hD : va_D A [cl_X9 h_this h_this_now h_this_kept h_this_told h_this_text h_this_script h_this_momentReader h_this_spanReader h_this_adder h_this_other h_this_trial h_this_ways i_this, cl_X6 h_this_text h_this_text_signs i_this_text, (h_this_text_signs, .inl (cI, 100, .inl f_this_text_signs))] := hD
  refine lv_iconst (v := (4 : Int32)) hx hb dX9_sign_7 (by decide) ?_
  refine lv_iadd hx hb dX9_sign_8 ?_
  refine lv_bipush (v := (100 : Int32)) hx hb dX9_sign_9 (by decide) ?_
  refine lv_icmp_le (tgt := 16) hx hb dX9_sign_11 (by decide) (fun c3 => ?_) (fun c3 => ?_)
  · have h := ite_t c3 h
    refine lv_aload_n hx hb dX9_sign_16 rfl (lv_at hl 0 rfl) ?_
    refine va_get (D := (dC, dI)) (ci := 8) (v := .ref h_this_text) (C := RX9) (T := TX9) (N := 12) hx hb hts inX9 hown hK hP 0 rfl rfl 4 (by decide) (hts _ (kq q_230 rfl)) (fun _ h9 => h9) rfl dX9_sign_17 ?_
    refine lv_iload_n hx hb dX9_sign_20 rfl (lv_at hl 1 rfl) ?_
    refine lv_bipush (v := (24 : Int32)) hx hb dX9_sign_21 (by decide) ?_
    refine lv_iushr hx hb dX9_sign_23 rfl ?_
    refine lv_sipush (v := (255 : Int32)) hx hb dX9_sign_24 (by decide) ?_
    refine lv_iand hx hb dX9_sign_27 ?_
    obtain ⟨i_this_text_4, f_this_text_signs_5, hc6, h⟩ := bd2_at h
    refine kjV (kV (own := "DateSpans") (C := "DateSpans$Text") (b := h_this_text) (As := [.int (((p1.toUInt32 >>> ((24 : Int32).toUInt32 &&& Int32.toUInt32 31)).toInt32) &&& (255 : Int32))]) (rest := []) ⟨hx, hb, hml, hown, hts⟩ (kX6_put l dC dI cI cJ cB h_this_text h_this_text_signs N (((p1.toUInt32 >>> ((24 : Int32).toUInt32 &&& Int32.toUInt32 31)).toInt32) &&& (255 : Int32)) i_this_text f_this_text_signs i_this_text_4 f_this_text_signs_5 hc6 _) (kgV (kq q_711 rfl) (kq q_708 rfl) (kq q_709 rfl) (kq q_21 rfl) (kq q_710 rfl)) yd_X6_put ⟨Nat.le_of_ble_eq_true rfl, Nat.le_of_ble_eq_true rfl⟩ hN hK hP hD [1, 2] rfl rfl (ci := 5) rfl rfl rfl rfl rfl hl.1 rfl (lv_room (Nat.le_of_ble_eq_true rfl)) dX9_sign_28) hP hD hS hA [1, 2] rfl rfl (fun H locs hP hD hS => ?_)
    have hP : va_P (dC, dI) vwCl [cl_X9 h_this h_this_now h_this_kept h_this_told h_this_text h_this_script h_this_momentReader h_this_spanReader h_this_adder h_this_other h_this_trial h_this_ways i_this, cl_X6 h_this_text h_this_text_signs i_this_text_4, (h_this_text_signs, .inl (cI, 100, .inl f_this_text_signs_5))] H := hP
    have hD : va_D A [cl_X9 h_this h_this_now h_this_kept h_this_told h_this_text h_this_script h_this_momentReader h_this_spanReader h_this_adder h_this_other h_this_trial h_this_ways i_this, cl_X6 h_this_text h_this_text_signs i_this_text_4, (h_this_text_signs, .inl (cI, 100, .inl f_this_text_signs_5))] := hD
    refine lv_aload_n hx hb dX9_sign_31 rfl (lv_at hl 0 rfl) ?_
    refine va_get (D := (dC, dI)) (ci := 8) (v := .ref h_this_text) (C := RX9) (T := TX9) (N := 12) hx hb hts inX9 hown hK hP 0 rfl rfl 4 (by decide) (hts _ (kq q_230 rfl)) (fun _ h9 => h9) rfl dX9_sign_32 ?_
    refine lv_iload_n hx hb dX9_sign_35 rfl (lv_at hl 1 rfl) ?_
    refine lv_bipush (v := (16 : Int32)) hx hb dX9_sign_36 (by decide) ?_
    refine lv_iushr hx hb dX9_sign_38 rfl ?_
    refine lv_sipush (v := (255 : Int32)) hx hb dX9_sign_39 (by decide) ?_
    refine lv_iand hx hb dX9_sign_42 ?_
    obtain ⟨i_this_text_7, f_this_text_signs_8, hc9, h⟩ := bd2_at h
    refine kjV (kV (own := "DateSpans") (C := "DateSpans$Text") (b := h_this_text) (As := [.int (((p1.toUInt32 >>> ((16 : Int32).toUInt32 &&& Int32.toUInt32 31)).toInt32) &&& (255 : Int32))]) (rest := []) ⟨hx, hb, hml, hown, hts⟩ (kX6_put l dC dI cI cJ cB h_this_text h_this_text_signs N (((p1.toUInt32 >>> ((16 : Int32).toUInt32 &&& Int32.toUInt32 31)).toInt32) &&& (255 : Int32)) i_this_text_4 f_this_text_signs_5 i_this_text_7 f_this_text_signs_8 hc9 _) (kgV (kq q_711 rfl) (kq q_708 rfl) (kq q_709 rfl) (kq q_21 rfl) (kq q_710 rfl)) yd_X6_put ⟨Nat.le_of_ble_eq_true rfl, Nat.le_of_ble_eq_true rfl⟩ hN hK hP hD [1, 2] rfl rfl (ci := 5) rfl rfl rfl rfl rfl hl.1 rfl (lv_room (Nat.le_of_ble_eq_true rfl)) dX9_sign_43) hP hD hS hA [1, 2] rfl rfl (fun H locs hP hD hS => ?_)
    have hP : va_P (dC, dI) vwCl [cl_X9 h_this h_this_now h_this_kept h_this_told h_this_text h_this_script h_this_momentReader h_this_spanReader h_this_adder h_this_other h_this_trial h_this_ways i_this, cl_X6 h_this_text h_this_text_signs i_this_text_7, (h_this_text_signs, .inl (cI, 100, .inl f_this_text_signs_8))] H := hP
    have hD : va_D A [cl_X9 h_this h_this_now h_this_kept h_this_told h_this_text h_this_script h_this_momentReader h_this_spanReader h_this_adder h_this_other h_this_trial h_this_ways i_this, cl_X6 h_this_text h_this_text_signs i_this_text_7, (h_this_text_signs, .inl (cI, 100, .inl f_this_text_signs_8))] := hD
    refine lv_aload_n hx hb dX9_sign_46 rfl (lv_at hl 0 rfl) ?_
    refine va_get (D := (dC, dI)) (ci := 8) (v := .ref h_this_text) (C := RX9) (T := TX9) (N := 12) hx hb hts inX9 hown hK hP 0 rfl rfl 4 (by decide) (hts _ (kq q_230 rfl)) (fun _ h9 => h9) rfl dX9_sign_47 ?_
    refine lv_iload_n hx hb dX9_sign_50 rfl (lv_at hl 1 rfl) ?_
    refine lv_bipush (v := (8 : Int32)) hx hb dX9_sign_51 (by decide) ?_
    refine lv_iushr hx hb dX9_sign_53 rfl ?_
    refine lv_sipush (v := (255 : Int32)) hx hb dX9_sign_54 (by decide) ?_
    refine lv_iand hx hb dX9_sign_57 ?_
    obtain ⟨i_this_text_10, f_this_text_signs_11, hc12, h⟩ := bd2_at h
    refine kjV (kV (own := "DateSpans") (C := "DateSpans$Text") (b := h_this_text) (As := [.int (((p1.toUInt32 >>> ((8 : Int32).toUInt32 &&& Int32.toUInt32 31)).toInt32) &&& (255 : Int32))]) (rest := []) ⟨hx, hb, hml, hown, hts⟩ (kX6_put l dC dI cI cJ cB h_this_text h_this_text_signs N (((p1.toUInt32 >>> ((8 : Int32).toUInt32 &&& Int32.toUInt32 31)).toInt32) &&& (255 : Int32)) i_this_text_7 f_this_text_signs_8 i_this_text_10 f_this_text_signs_11 hc12 _) (kgV (kq q_711 rfl) (kq q_708 rfl) (kq q_709 rfl) (kq q_21 rfl) (kq q_710 rfl)) yd_X6_put ⟨Nat.le_of_ble_eq_true rfl, Nat.le_of_ble_eq_true rfl⟩ hN hK hP hD [1, 2] rfl rfl (ci := 5) rfl rfl rfl rfl rfl hl.1 rfl (lv_room (Nat.le_of_ble_eq_true rfl)) dX9_sign_58) hP hD hS hA [1, 2] rfl rfl (fun H locs hP hD hS => ?_)
    have hP : va_P (dC, dI) vwCl [cl_X9 h_this h_this_now h_this_kept h_this_told h_this_text h_this_script h_this_momentReader h_this_spanReader h_this_adder h_this_other h_this_trial h_this_ways i_this, cl_X6 h_this_text h_this_text_signs i_this_text_10, (h_this_text_signs, .inl (cI, 100, .inl f_this_text_signs_11))] H := hP
    have hD : va_D A [cl_X9 h_this h_this_now h_this_kept h_this_told h_this_text h_this_script h_this_momentReader h_this_spanReader h_this_adder h_this_other h_this_trial h_this_ways i_this, cl_X6 h_this_text h_this_text_signs i_this_text_10, (h_this_text_signs, .inl (cI, 100, .inl f_this_text_signs_11))] := hD
    refine lv_aload_n hx hb dX9_sign_61 rfl (lv_at hl 0 rfl) ?_
    refine va_get (D := (dC, dI)) (ci := 8) (v := .ref h_this_text) (C := RX9) (T := TX9) (N := 12) hx hb hts inX9 hown hK hP 0 rfl rfl 4 (by decide) (hts _ (kq q_230 rfl)) (fun _ h9 => h9) rfl dX9_sign_62 ?_
    refine lv_iload_n hx hb dX9_sign_65 rfl (lv_at hl 1 rfl) ?_
    refine lv_sipush (v := (255 : Int32)) hx hb dX9_sign_66 (by decide) ?_
    refine lv_iand hx hb dX9_sign_69 ?_
    obtain ⟨i_this_text_13, f_this_text_signs_14, hc15, h⟩ := bd2_at h
    refine kjV (kV (own := "DateSpans") (C := "DateSpans$Text") (b := h_this_text) (As := [.int (p1 &&& (255 : Int32))]) (rest := []) ⟨hx, hb, hml, hown, hts⟩ (kX6_put l dC dI cI cJ cB h_this_text h_this_text_signs N (p1 &&& (255 : Int32)) i_this_text_10 f_this_text_signs_11 i_this_text_13 f_this_text_signs_14 hc15 _) (kgV (kq q_711 rfl) (kq q_708 rfl) (kq q_709 rfl) (kq q_21 rfl) (kq q_710 rfl)) yd_X6_put ⟨Nat.le_of_ble_eq_true rfl, Nat.le_of_ble_eq_true rfl⟩ hN hK hP hD [1, 2] rfl rfl (ci := 5) rfl rfl rfl rfl rfl hl.1 rfl (lv_room (Nat.le_of_ble_eq_true rfl)) dX9_sign_70) hP hD hS hA [1, 2] rfl rfl (fun H locs hP hD hS => ?_)
    have hP : va_P (dC, dI) vwCl [cl_X9 h_this h_this_now h_this_kept h_this_told h_this_text h_this_script h_this_momentReader h_this_spanReader h_this_adder h_this_other h_this_trial h_this_ways i_this, cl_X6 h_this_text h_this_text_signs i_this_text_13, (h_this_text_signs, .inl (cI, 100, .inl f_this_text_signs_14))] H := hP
    have hD : va_D A [cl_X9 h_this h_this_now h_this_kept h_this_told h_this_text h_this_script h_this_momentReader h_this_spanReader h_this_adder h_this_other h_this_trial h_this_ways i_this, cl_X6 h_this_text h_this_text_signs i_this_text_13, (h_this_text_signs, .inl (cI, 100, .inl f_this_text_signs_14))] := hD
    refine lv_aload_n hx hb dX9_sign_73 rfl (lv_at hl 0 rfl) ?_
    refine va_get (D := (dC, dI)) (ci := 8) (v := .ref h_this_text) (C := RX9) (T := TX9) (N := 12) hx hb hts inX9 hown hK hP 0 rfl rfl 4 (by decide) (hts _ (kq q_230 rfl)) (fun _ h9 => h9) rfl dX9_sign_74 ?_
    obtain ⟨r16, hc17, h⟩ := bd1_at h
    refine kjI (kV (own := "DateSpans") (C := "DateSpans$Text") (b := h_this_text) (As := []) (rest := []) ⟨hx, hb, hml, hown, hts⟩ (kX6_length l dC dI cI cJ cB h_this_text h_this_text_signs N i_this_text_13 r16 hc17 _) (kgV (kq q_712 rfl) (kq q_713 rfl) (kq q_714 rfl) (kq q_21 rfl) (kq q_715 rfl)) yd_X6_length ⟨Nat.le_of_ble_eq_true rfl, Nat.le_of_ble_eq_true rfl⟩ hN hK hP hD [1] rfl rfl (ci := 5) rfl rfl rfl rfl rfl hl.1 rfl (lv_room (Nat.le_of_ble_eq_true rfl)) dX9_sign_77) hP hD hS hA [1] rfl rfl (fun H locs hP hD hS => ?_)
    have hP : va_P (dC, dI) vwCl [cl_X9 h_this h_this_now h_this_kept h_this_told h_this_text h_this_script h_this_momentReader h_this_spanReader h_this_adder h_this_other h_this_trial h_this_ways i_this, cl_X6 h_this_text h_this_text_signs i_this_text_13, (h_this_text_signs, .inl (cI, 100, .inl f_this_text_signs_14))] H := hP
    have hD : va_D A [cl_X9 h_this h_this_now h_this_kept h_this_told h_this_text h_this_script h_this_momentReader h_this_spanReader h_this_adder h_this_other h_this_trial h_this_ways i_this, cl_X6 h_this_text h_this_text_signs i_this_text_13, (h_this_text_signs, .inl (cI, 100, .inl f_this_text_signs_14))] := hD
    obtain ⟨rfl, rfl, rfl⟩ := pj3 h
    exact hEnd _ _ _ _ hP hS dX9_sign_80 rfl
  have h := ite_f c3 h
  refine lv_iconst (v := (-1 : Int32)) hx hb dX9_sign_14 (by decide) ?_
  obtain ⟨rfl, rfl, rfl⟩ := pj3 h
  exact hEnd _ _ _ _ hP hS dX9_sign_15 rfl
noncomputable def fX6_cut (N : Nat) (p1 : Int32) (i_this : Int32) : Option (Int32) := (if p1 < (0 : Int32) then (some i_this) else (if i_this < p1 then (some i_this) else (some p1)))
set_option maxHeartbeats 4000000 in
set_option maxRecDepth 100000 in
theorem kX6_cut (l : Launch) (dC : Nat → ClassId) (dI : Nat → Nat → Nat) (cI cJ cB : ClassId) (h_this h_this_signs : Nat) (N : Nat) (p1 : Int32) (i_this : Int32) (o_i_this : Int32) (hf : fX6_cut N p1 i_this = some o_i_this) : MV l yX6_cut (kws yX6_cut cX6_cut 2 (none)) (kR 0 0) (dC, dI) (kT cI cJ cB) [.ref h_this, .int p1] [cl_X6 h_this h_this_signs i_this] [cl_X6 h_this h_this_signs o_i_this] := by
  refine MV.of (cc := cX6_cut) (maxL := 2) (by decide) (Nat.le_of_ble_eq_true rfl) (fun p e s m args below meth c A Q ls KC hN hK hP hD hA hl hEnd => ?_)
  obtain ⟨hx, hb, hml, hown, hts⟩ := KC
  have hown : s.vm.findClass "DateSpans$Text" = some m.cls := hown
  have hl : lv_has ls 2 [(0, .ref h_this), (1, .int p1)] := hl
  have hS : va_S A s.heap s.heap [] := va_S.rf
  have h := hf
  unfold fX6_cut at h
  refine lv_iload_n hx hb dX6_cut_0 rfl (lv_at hl 1 rfl) ?_
  refine lv_if_lt (tgt := 17) hx hb dX6_cut_1 (by decide) (fun c1 => ?_) (fun c1 => ?_)
  · have h := ite_t c1 h
    obtain rfl := pj1 h
    exact hEnd _ _ _ _ hP hS dX6_cut_17
  have h := ite_f c1 h
  refine lv_iload_n hx hb dX6_cut_4 rfl (lv_at hl 1 rfl) ?_
  refine lv_aload_n hx hb dX6_cut_5 rfl (lv_at hl 0 rfl) ?_
  refine va_get (D := (dC, dI)) (ci := 5) (v := .int i_this) (C := RX6) (T := TX6) (N := 2) hx hb hts inX6 hown hK hP 0 rfl rfl 1 (by decide) (hts _ (kq q_85 rfl)) (fun _ h9 => h9) rfl dX6_cut_6 ?_
  refine lv_icmp_gt (tgt := 17) hx hb dX6_cut_9 (by decide) (fun c2 => ?_) (fun c2 => ?_)
  · have h := ite_t c2 h
    obtain rfl := pj1 h
    exact hEnd _ _ _ _ hP hS dX6_cut_17
  have h := ite_f c2 h
  refine lv_aload_n hx hb dX6_cut_12 rfl (lv_at hl 0 rfl) ?_
  refine lv_iload_n hx hb dX6_cut_13 rfl (lv_at hl 1 rfl) ?_
  refine va_put (D := (dC, dI)) (ci := 5) (v := .int p1) (ty := .int) (C := RX6) (T := TX6) (N := 2) hx hb hts inX6 tyX6 tyX6_ok nmX6 hown hK hP hD hS 0 rfl rfl 1 (by decide) (hts _ (kq q_85 rfl)) (fun _ h9 => h9) rfl (by decide +kernel) rfl rfl (Nat.le_of_ble_eq_true rfl) dX6_cut_14 (fun H locs hP hD hS => ?_)
  have hP : va_P (dC, dI) vwCl [cl_X6 h_this h_this_signs p1] H := hP
  have hD : va_D A [cl_X6 h_this h_this_signs p1] := hD
  obtain rfl := pj1 h
  exact hEnd _ _ _ _ hP hS dX6_cut_17
noncomputable def fX9_end (N : Nat) (p1 : Int32) (i_this : Int32) (i_this_text : Int32) : Option (Int32 × Int32) := (if p1 < (0 : Int32) then (some ((0 : Int32), i_this_text)) else (bd1 (fX6_length N i_this_text) fun r2 => (if p1 ≤ r2 then (bd1 (fX6_cut N p1 i_this_text) fun i_this_text_5 => (some ((1 : Int32), i_this_text_5))) else (some ((0 : Int32), i_this_text)))))
set_option maxHeartbeats 4000000 in
set_option maxRecDepth 100000 in
theorem kX9_end (l : Launch) (dC : Nat → ClassId) (dI : Nat → Nat → Nat) (cI cJ cB : ClassId) (h_this h_this_now h_this_kept h_this_told h_this_text h_this_script h_this_momentReader h_this_spanReader h_this_adder h_this_other h_this_trial h_this_ways h_this_text_signs : Nat) (N : Nat) (p1 : Int32) (i_this : Int32) (i_this_text : Int32) (r : Int32) (o_i_this_text : Int32) (hf : fX9_end N p1 i_this i_this_text = some (r, o_i_this_text)) : MI l yX9_end (kws yX9_end cX9_end 2 (some .boolean)) (kR 1 21) (dC, dI) (kT cI cJ cB) [.ref h_this, .int p1] [cl_X9 h_this h_this_now h_this_kept h_this_told h_this_text h_this_script h_this_momentReader h_this_spanReader h_this_adder h_this_other h_this_trial h_this_ways i_this, cl_X6 h_this_text h_this_text_signs i_this_text] [cl_X9 h_this h_this_now h_this_kept h_this_told h_this_text h_this_script h_this_momentReader h_this_spanReader h_this_adder h_this_other h_this_trial h_this_ways i_this, cl_X6 h_this_text h_this_text_signs o_i_this_text] r := by
  refine MI.of (cc := cX9_end) (maxL := 2) (by decide) (Nat.le_of_ble_eq_true rfl) (fun p e s m args below meth c A Q ls KC hN hK hP hD hA hl hEnd => ?_)
  obtain ⟨hx, hb, hml, hown, hts⟩ := KC
  have hown : s.vm.findClass "DateSpans" = some m.cls := hown
  have hl : lv_has ls 2 [(0, .ref h_this), (1, .int p1)] := hl
  have hS : va_S A s.heap s.heap [] := va_S.rf
  have h := hf
  unfold fX9_end at h
  refine lv_iload_n hx hb dX9_end_0 rfl (lv_at hl 1 rfl) ?_
  refine lv_if_lt (tgt := 15) hx hb dX9_end_1 (by decide) (fun c1 => ?_) (fun c1 => ?_)
  · have h := ite_t c1 h
    refine lv_iconst (v := (0 : Int32)) hx hb dX9_end_15 (by decide) ?_
    obtain ⟨rfl, rfl⟩ := pj2 h
    exact hEnd _ _ _ _ hP hS dX9_end_16 rfl
  have h := ite_f c1 h
  refine lv_iload_n hx hb dX9_end_4 rfl (lv_at hl 1 rfl) ?_
  refine lv_aload_n hx hb dX9_end_5 rfl (lv_at hl 0 rfl) ?_
  refine va_get (D := (dC, dI)) (ci := 8) (v := .ref h_this_text) (C := RX9) (T := TX9) (N := 12) hx hb hts inX9 hown hK hP 0 rfl rfl 4 (by decide) (hts _ (kq q_230 rfl)) (fun _ h9 => h9) rfl dX9_end_6 ?_
  obtain ⟨r2, hc3, h⟩ := bd1_at h
  refine kjI (kV (own := "DateSpans") (C := "DateSpans$Text") (b := h_this_text) (As := []) (rest := [.int p1]) ⟨hx, hb, hml, hown, hts⟩ (kX6_length l dC dI cI cJ cB h_this_text h_this_text_signs N i_this_text r2 hc3 _) (kgV (kq q_712 rfl) (kq q_713 rfl) (kq q_714 rfl) (kq q_21 rfl) (kq q_715 rfl)) yd_X6_length ⟨Nat.le_of_ble_eq_true rfl, Nat.le_of_ble_eq_true rfl⟩ hN hK hP hD [1] rfl rfl (ci := 5) rfl rfl rfl rfl rfl hl.1 rfl (lv_room (Nat.le_of_ble_eq_true rfl)) dX9_end_9) hP hD hS hA [1] rfl rfl (fun H locs hP hD hS => ?_)
  have hP : va_P (dC, dI) vwCl [cl_X9 h_this h_this_now h_this_kept h_this_told h_this_text h_this_script h_this_momentReader h_this_spanReader h_this_adder h_this_other h_this_trial h_this_ways i_this, cl_X6 h_this_text h_this_text_signs i_this_text] H := hP
  have hD : va_D A [cl_X9 h_this h_this_now h_this_kept h_this_told h_this_text h_this_script h_this_momentReader h_this_spanReader h_this_adder h_this_other h_this_trial h_this_ways i_this, cl_X6 h_this_text h_this_text_signs i_this_text] := hD
  refine lv_icmp_le (tgt := 17) hx hb dX9_end_12 (by decide) (fun c4 => ?_) (fun c4 => ?_)
  · have h := ite_t c4 h
    refine lv_aload_n hx hb dX9_end_17 rfl (lv_at hl 0 rfl) ?_
    refine va_get (D := (dC, dI)) (ci := 8) (v := .ref h_this_text) (C := RX9) (T := TX9) (N := 12) hx hb hts inX9 hown hK hP 0 rfl rfl 4 (by decide) (hts _ (kq q_230 rfl)) (fun _ h9 => h9) rfl dX9_end_18 ?_
    refine lv_iload_n hx hb dX9_end_21 rfl (lv_at hl 1 rfl) ?_
    obtain ⟨i_this_text_5, hc6, h⟩ := bd1_at h
    refine kjV (kV (own := "DateSpans") (C := "DateSpans$Text") (b := h_this_text) (As := [.int p1]) (rest := []) ⟨hx, hb, hml, hown, hts⟩ (kX6_cut l dC dI cI cJ cB h_this_text h_this_text_signs N p1 i_this_text i_this_text_5 hc6 _) (kgV (kq q_698 rfl) (kq q_699 rfl) (kq q_700 rfl) (kq q_21 rfl) (kq q_701 rfl)) yd_X6_cut ⟨Nat.le_of_ble_eq_true rfl, Nat.le_of_ble_eq_true rfl⟩ hN hK hP hD [1] rfl rfl (ci := 5) rfl rfl rfl rfl rfl hl.1 rfl (lv_room (Nat.le_of_ble_eq_true rfl)) dX9_end_22) hP hD hS hA [1] rfl rfl (fun H locs hP hD hS => ?_)
    have hP : va_P (dC, dI) vwCl [cl_X9 h_this h_this_now h_this_kept h_this_told h_this_text h_this_script h_this_momentReader h_this_spanReader h_this_adder h_this_other h_this_trial h_this_ways i_this, cl_X6 h_this_text h_this_text_signs i_this_text_5] H := hP
    have hD : va_D A [cl_X9 h_this h_this_now h_this_kept h_this_told h_this_text h_this_script h_this_momentReader h_this_spanReader h_this_adder h_this_other h_this_trial h_this_ways i_this, cl_X6 h_this_text h_this_text_signs i_this_text_5] := hD
    refine lv_iconst (v := (1 : Int32)) hx hb dX9_end_25 (by decide) ?_
    obtain ⟨rfl, rfl⟩ := pj2 h
    exact hEnd _ _ _ _ hP hS dX9_end_26 rfl
  have h := ite_f c4 h
  refine lv_iconst (v := (0 : Int32)) hx hb dX9_end_15 (by decide) ?_
  obtain ⟨rfl, rfl⟩ := pj2 h
  exact hEnd _ _ _ _ hP hS dX9_end_16 rfl
noncomputable def fX6_at (N : Nat) (p1 : Int32) (i_this : Int32) (f_this_signs : Nat → Int32) : Option (Int32) := (if p1 < (0 : Int32) then (some (-1 : Int32)) else (if i_this ≤ p1 then (some (-1 : Int32)) else (if (100 : Int32) ≤ p1 then (some (-1 : Int32)) else (gi p1 100 (some (f_this_signs p1.toNatClampNeg))))))
set_option maxHeartbeats 4000000 in
set_option maxRecDepth 100000 in
theorem kX6_at (l : Launch) (dC : Nat → ClassId) (dI : Nat → Nat → Nat) (cI cJ cB : ClassId) (h_this h_this_signs : Nat) (N : Nat) (p1 : Int32) (i_this : Int32) (f_this_signs : Nat → Int32) (r : Int32) (hf : fX6_at N p1 i_this f_this_signs = some r) : MI l yX6_at (kws yX6_at cX6_at 2 (some .int)) (kR 0 0) (dC, dI) (kT cI cJ cB) [.ref h_this, .int p1] [cl_X6 h_this h_this_signs i_this, (h_this_signs, .inl (cI, 100, .inl f_this_signs))] [cl_X6 h_this h_this_signs i_this, (h_this_signs, .inl (cI, 100, .inl f_this_signs))] r := by
  refine MI.of (cc := cX6_at) (maxL := 2) (by decide) (Nat.le_of_ble_eq_true rfl) (fun p e s m args below meth c A Q ls KC hN hK hP hD hA hl hEnd => ?_)
  obtain ⟨hx, hb, hml, hown, hts⟩ := KC
  have hown : s.vm.findClass "DateSpans$Text" = some m.cls := hown
  have hl : lv_has ls 2 [(0, .ref h_this), (1, .int p1)] := hl
  have hS : va_S A s.heap s.heap [] := va_S.rf
  have h := hf
  unfold fX6_at at h
  refine lv_iload_n hx hb dX6_at_0 rfl (lv_at hl 1 rfl) ?_
  refine lv_if_lt (tgt := 30) hx hb dX6_at_1 (by decide) (fun c1 => ?_) (fun c1 => ?_)
  · have h := ite_t c1 h
    refine lv_iconst (v := (-1 : Int32)) hx hb dX6_at_30 (by decide) ?_
    obtain rfl := pj1 h
    exact hEnd _ _ _ _ hP hS dX6_at_31 rfl
  have h := ite_f c1 h
  refine lv_iload_n hx hb dX6_at_4 rfl (lv_at hl 1 rfl) ?_
  refine lv_aload_n hx hb dX6_at_5 rfl (lv_at hl 0 rfl) ?_
  refine va_get (D := (dC, dI)) (ci := 5) (v := .int i_this) (C := RX6) (T := TX6) (N := 2) hx hb hts inX6 hown hK hP 0 rfl rfl 1 (by decide) (hts _ (kq q_85 rfl)) (fun _ h9 => h9) rfl dX6_at_6 ?_
  refine lv_icmp_ge (tgt := 30) hx hb dX6_at_9 (by decide) (fun c2 => ?_) (fun c2 => ?_)
  · have h := ite_t c2 h
    refine lv_iconst (v := (-1 : Int32)) hx hb dX6_at_30 (by decide) ?_
    obtain rfl := pj1 h
    exact hEnd _ _ _ _ hP hS dX6_at_31 rfl
  have h := ite_f c2 h
  refine lv_iload_n hx hb dX6_at_12 rfl (lv_at hl 1 rfl) ?_
  refine lv_aload_n hx hb dX6_at_13 rfl (lv_at hl 0 rfl) ?_
  refine va_get (D := (dC, dI)) (ci := 5) (v := .ref h_this_signs) (C := RX6) (T := TX6) (N := 2) hx hb hts inX6 hown hK hP 0 rfl rfl 0 (by decide) (hts _ (kq q_84 rfl)) (fun _ h9 => h9) rfl dX6_at_14 ?_
  refine va_alen (v := (100 : Int32)) hx hb hK hP 1 0 rfl (ty := .int) rfl (show Int32.ofNat 100 = (100 : Int32) by decide) dX6_at_17 ?_
  refine lv_icmp_ge (tgt := 30) hx hb dX6_at_18 (by decide) (fun c3 => ?_) (fun c3 => ?_)
  · have h := ite_t c3 h
    refine lv_iconst (v := (-1 : Int32)) hx hb dX6_at_30 (by decide) ?_
    obtain rfl := pj1 h
    exact hEnd _ _ _ _ hP hS dX6_at_31 rfl
  have h := ite_f c3 h
  refine lv_aload_n hx hb dX6_at_21 rfl (lv_at hl 0 rfl) ?_
  refine va_get (D := (dC, dI)) (ci := 5) (v := .ref h_this_signs) (C := RX6) (T := TX6) (N := 2) hx hb hts inX6 hown hK hP 0 rfl rfl 0 (by decide) (hts _ (kq q_84 rfl)) (fun _ h9 => h9) rfl dX6_at_22 ?_
  refine lv_iload_n hx hb dX6_at_25 rfl (lv_at hl 1 rfl) ?_
  obtain ⟨hi4, h⟩ := gi_at h
  refine va_iald hx hb hK hP 1 0 rfl rfl hi4 dX6_at_26 ?_
  refine lv_goto (tgt := 31) hx hb dX6_at_27 (by decide) ?_
  obtain rfl := pj1 h
  exact hEnd _ _ _ _ hP hS dX6_at_31 rfl
noncomputable def fX1_isLeap (N : Nat) (p1 : Int32) : Option (Int32) := (if (p1 - p1 / (4 : Int32) * (4 : Int32)) = (0 : Int32) then (if (p1 - p1 / (100 : Int32) * (100 : Int32)) = (0 : Int32) then (if (p1 - p1 / (400 : Int32) * (400 : Int32)) = (0 : Int32) then (some (1 : Int32)) else (some (0 : Int32))) else (some (1 : Int32))) else (some (0 : Int32)))
set_option maxHeartbeats 4000000 in
set_option maxRecDepth 100000 in
theorem kX1_isLeap (l : Launch) (N : Nat) (p1 : Int32) (r : Int32) (hf : fX1_isLeap N p1 = some r) : SI l yX1_isLeap (kws yX1_isLeap cX1_isLeap 1 (some .boolean)) (kR 0 0) [.int p1] r := by
  refine SI.of (cc := cX1_isLeap) (maxL := 1) (by decide) (Nat.le_of_ble_eq_true rfl) (fun p e s m args below meth c Q ls KC hl hEnd => ?_)
  obtain ⟨hx, hb, hml, hown, hts⟩ := KC
  have hown : s.vm.findClass "DateSpans$Calendar" = some m.cls := hown
  have hl : lv_has ls 1 [(0, .int p1)] := hl
  have h := hf
  unfold fX1_isLeap at h
  refine lv_iload_n hx hb dX1_isLeap_0 rfl (lv_at hl 0 rfl) ?_
  refine lv_iconst (v := (4 : Int32)) hx hb dX1_isLeap_1 (by decide) ?_
  refine lv_irem hx hb dX1_isLeap_2 (by decide) ?_
  refine lv_if_ne (tgt := 25) hx hb dX1_isLeap_3 (by decide) (fun c1 => ?_) (fun c1 => ?_)
  · have h := ite_f c1 h
    refine lv_iconst (v := (0 : Int32)) hx hb dX1_isLeap_25 (by decide) ?_
    obtain rfl := pj1 h
    exact hEnd _ _ dX1_isLeap_26 rfl
  have h := ite_t c1 h
  refine lv_iload_n hx hb dX1_isLeap_6 rfl (lv_at hl 0 rfl) ?_
  refine lv_bipush (v := (100 : Int32)) hx hb dX1_isLeap_7 (by decide) ?_
  refine lv_irem hx hb dX1_isLeap_9 (by decide) ?_
  refine lv_if_ne (tgt := 21) hx hb dX1_isLeap_10 (by decide) (fun c2 => ?_) (fun c2 => ?_)
  · have h := ite_f c2 h
    refine lv_iconst (v := (1 : Int32)) hx hb dX1_isLeap_21 (by decide) ?_
    refine lv_goto (tgt := 26) hx hb dX1_isLeap_22 (by decide) ?_
    obtain rfl := pj1 h
    exact hEnd _ _ dX1_isLeap_26 rfl
  have h := ite_t c2 h
  refine lv_iload_n hx hb dX1_isLeap_13 rfl (lv_at hl 0 rfl) ?_
  refine lv_sipush (v := (400 : Int32)) hx hb dX1_isLeap_14 (by decide) ?_
  refine lv_irem hx hb dX1_isLeap_17 (by decide) ?_
  refine lv_if_ne (tgt := 25) hx hb dX1_isLeap_18 (by decide) (fun c3 => ?_) (fun c3 => ?_)
  · have h := ite_f c3 h
    refine lv_iconst (v := (0 : Int32)) hx hb dX1_isLeap_25 (by decide) ?_
    obtain rfl := pj1 h
    exact hEnd _ _ dX1_isLeap_26 rfl
  have h := ite_t c3 h
  refine lv_iconst (v := (1 : Int32)) hx hb dX1_isLeap_21 (by decide) ?_
  refine lv_goto (tgt := 26) hx hb dX1_isLeap_22 (by decide) ?_
  obtain rfl := pj1 h
  exact hEnd _ _ dX1_isLeap_26 rfl
noncomputable def fX1_monthLength (N : Nat) (p1 : Int32) (p2 : Int32) : Option (Int32) := (if p2 = (2 : Int32) then (bd1 (fX1_isLeap N p1) fun r6 => (if r6 = (0 : Int32) then (some (28 : Int32)) else (some (29 : Int32)))) else (if p2 = (4 : Int32) then (some (30 : Int32)) else (if p2 = (6 : Int32) then (some (30 : Int32)) else (if p2 = (9 : Int32) then (some (30 : Int32)) else (if p2 = (11 : Int32) then (some (30 : Int32)) else (some (31 : Int32)))))))
set_option maxHeartbeats 4000000 in
set_option maxRecDepth 100000 in
theorem kX1_monthLength (l : Launch) (N : Nat) (p1 : Int32) (p2 : Int32) (r : Int32) (hf : fX1_monthLength N p1 p2 = some r) : SI l yX1_monthLength (kws yX1_monthLength cX1_monthLength 2 (some .int)) (kR 1 20) [.int p1, .int p2] r := by
  refine SI.of (cc := cX1_monthLength) (maxL := 2) (by decide) (Nat.le_of_ble_eq_true rfl) (fun p e s m args below meth c Q ls KC hl hEnd => ?_)
  obtain ⟨hx, hb, hml, hown, hts⟩ := KC
  have hown : s.vm.findClass "DateSpans$Calendar" = some m.cls := hown
  have hl : lv_has ls 2 [(0, .int p1), (1, .int p2)] := hl
  have h := hf
  unfold fX1_monthLength at h
  refine lv_iload_n hx hb dX1_monthLength_0 rfl (lv_at hl 1 rfl) ?_
  refine lv_iconst (v := (2 : Int32)) hx hb dX1_monthLength_1 (by decide) ?_
  refine lv_icmp_ne (tgt := 20) hx hb dX1_monthLength_2 (by decide) (fun c1 => ?_) (fun c1 => ?_)
  · have h := ite_f c1 h
    refine lv_iload_n hx hb dX1_monthLength_20 rfl (lv_at hl 1 rfl) ?_
    refine lv_iconst (v := (4 : Int32)) hx hb dX1_monthLength_21 (by decide) ?_
    refine lv_icmp_eq (tgt := 43) hx hb dX1_monthLength_22 (by decide) (fun c2 => ?_) (fun c2 => ?_)
    · have h := ite_t c2 h
      refine lv_bipush (v := (30 : Int32)) hx hb dX1_monthLength_43 (by decide) ?_
      refine lv_goto (tgt := 50) hx hb dX1_monthLength_45 (by decide) ?_
      obtain rfl := pj1 h
      exact hEnd _ _ dX1_monthLength_50 rfl
    have h := ite_f c2 h
    refine lv_iload_n hx hb dX1_monthLength_25 rfl (lv_at hl 1 rfl) ?_
    refine lv_bipush (v := (6 : Int32)) hx hb dX1_monthLength_26 (by decide) ?_
    refine lv_icmp_eq (tgt := 43) hx hb dX1_monthLength_28 (by decide) (fun c3 => ?_) (fun c3 => ?_)
    · have h := ite_t c3 h
      refine lv_bipush (v := (30 : Int32)) hx hb dX1_monthLength_43 (by decide) ?_
      refine lv_goto (tgt := 50) hx hb dX1_monthLength_45 (by decide) ?_
      obtain rfl := pj1 h
      exact hEnd _ _ dX1_monthLength_50 rfl
    have h := ite_f c3 h
    refine lv_iload_n hx hb dX1_monthLength_31 rfl (lv_at hl 1 rfl) ?_
    refine lv_bipush (v := (9 : Int32)) hx hb dX1_monthLength_32 (by decide) ?_
    refine lv_icmp_eq (tgt := 43) hx hb dX1_monthLength_34 (by decide) (fun c4 => ?_) (fun c4 => ?_)
    · have h := ite_t c4 h
      refine lv_bipush (v := (30 : Int32)) hx hb dX1_monthLength_43 (by decide) ?_
      refine lv_goto (tgt := 50) hx hb dX1_monthLength_45 (by decide) ?_
      obtain rfl := pj1 h
      exact hEnd _ _ dX1_monthLength_50 rfl
    have h := ite_f c4 h
    refine lv_iload_n hx hb dX1_monthLength_37 rfl (lv_at hl 1 rfl) ?_
    refine lv_bipush (v := (11 : Int32)) hx hb dX1_monthLength_38 (by decide) ?_
    refine lv_icmp_ne (tgt := 48) hx hb dX1_monthLength_40 (by decide) (fun c5 => ?_) (fun c5 => ?_)
    · have h := ite_f c5 h
      refine lv_bipush (v := (31 : Int32)) hx hb dX1_monthLength_48 (by decide) ?_
      obtain rfl := pj1 h
      exact hEnd _ _ dX1_monthLength_50 rfl
    have h := ite_t c5 h
    refine lv_bipush (v := (30 : Int32)) hx hb dX1_monthLength_43 (by decide) ?_
    refine lv_goto (tgt := 50) hx hb dX1_monthLength_45 (by decide) ?_
    obtain rfl := pj1 h
    exact hEnd _ _ dX1_monthLength_50 rfl
  have h := ite_t c1 h
  refine lv_iload_n hx hb dX1_monthLength_5 rfl (lv_at hl 0 rfl) ?_
  obtain ⟨r6, hc7, h⟩ := bd1_at h
  refine kjSI (kS0 (own := "DateSpans$Calendar") (As := [.int p1]) (rest := []) ⟨hx, hb, hml, hown, hts⟩ (kX1_isLeap l N p1 r6 hc7) (kgS (kq q_323 rfl) (kq q_324 rfl) (kq q_28 rfl) (kq q_325 rfl)) yd_X1_isLeap ⟨Nat.le_of_ble_eq_true rfl, Nat.le_of_ble_eq_true rfl⟩ rfl rfl hl.1 rfl (lv_room (Nat.le_of_ble_eq_true rfl)) dX1_monthLength_6) ?_
  refine lv_if_eq (tgt := 17) hx hb dX1_monthLength_9 (by decide) (fun c8 => ?_) (fun c8 => ?_)
  · have h := ite_t c8 h
    refine lv_bipush (v := (28 : Int32)) hx hb dX1_monthLength_17 (by decide) ?_
    obtain rfl := pj1 h
    exact hEnd _ _ dX1_monthLength_19 rfl
  have h := ite_f c8 h
  refine lv_bipush (v := (29 : Int32)) hx hb dX1_monthLength_12 (by decide) ?_
  refine lv_goto (tgt := 19) hx hb dX1_monthLength_14 (by decide) ?_
  obtain rfl := pj1 h
  exact hEnd _ _ dX1_monthLength_19 rfl
noncomputable def fX2_mostAt (N : Nat) (p1 : Int32) (i_this : Nat → Int32) : Option (Int32) := (if (8 : Int32) ≤ p1 then (if (11 : Int32) ≤ p1 then (if (14 : Int32) ≤ p1 then (some (59 : Int32)) else (some (23 : Int32))) else (bd1 (fX1_monthLength N (i_this 2) (i_this 3)) fun r4 => (some r4))) else (some (12 : Int32)))
set_option maxHeartbeats 4000000 in
set_option maxRecDepth 100000 in
theorem kX2_mostAt (l : Launch) (dC : Nat → ClassId) (dI : Nat → Nat → Nat) (cI cJ cB : ClassId) (h_this : Nat) (N : Nat) (p1 : Int32) (i_this : Nat → Int32) (r : Int32) (hf : fX2_mostAt N p1 i_this = some r) : MI l yX2_mostAt (kws yX2_mostAt cX2_mostAt 2 (some .int)) (kR 2 41) (dC, dI) (kT cI cJ cB) [.ref h_this, .int p1] [cl_X2 h_this i_this] [cl_X2 h_this i_this] r := by
  refine MI.of (cc := cX2_mostAt) (maxL := 2) (by decide) (Nat.le_of_ble_eq_true rfl) (fun p e s m args below meth c A Q ls KC hN hK hP hD hA hl hEnd => ?_)
  obtain ⟨hx, hb, hml, hown, hts⟩ := KC
  have hown : s.vm.findClass "DateSpans$MomentReader" = some m.cls := hown
  have hl : lv_has ls 2 [(0, .ref h_this), (1, .int p1)] := hl
  have hS : va_S A s.heap s.heap [] := va_S.rf
  have h := hf
  unfold fX2_mostAt at h
  refine lv_iload_n hx hb dX2_mostAt_0 rfl (lv_at hl 1 rfl) ?_
  refine lv_bipush (v := (8 : Int32)) hx hb dX2_mostAt_1 (by decide) ?_
  refine lv_icmp_ge (tgt := 9) hx hb dX2_mostAt_3 (by decide) (fun c1 => ?_) (fun c1 => ?_)
  · have h := ite_t c1 h
    refine lv_iload_n hx hb dX2_mostAt_9 rfl (lv_at hl 1 rfl) ?_
    refine lv_bipush (v := (11 : Int32)) hx hb dX2_mostAt_10 (by decide) ?_
    refine lv_icmp_ge (tgt := 27) hx hb dX2_mostAt_12 (by decide) (fun c2 => ?_) (fun c2 => ?_)
    · have h := ite_t c2 h
      refine lv_iload_n hx hb dX2_mostAt_27 rfl (lv_at hl 1 rfl) ?_
      refine lv_bipush (v := (14 : Int32)) hx hb dX2_mostAt_28 (by decide) ?_
      refine lv_icmp_ge (tgt := 38) hx hb dX2_mostAt_30 (by decide) (fun c3 => ?_) (fun c3 => ?_)
      · have h := ite_t c3 h
        refine lv_bipush (v := (59 : Int32)) hx hb dX2_mostAt_38 (by decide) ?_
        obtain rfl := pj1 h
        exact hEnd _ _ _ _ hP hS dX2_mostAt_40 rfl
      have h := ite_f c3 h
      refine lv_bipush (v := (23 : Int32)) hx hb dX2_mostAt_33 (by decide) ?_
      refine lv_goto (tgt := 40) hx hb dX2_mostAt_35 (by decide) ?_
      obtain rfl := pj1 h
      exact hEnd _ _ _ _ hP hS dX2_mostAt_40 rfl
    have h := ite_f c2 h
    refine lv_aload_n hx hb dX2_mostAt_15 rfl (lv_at hl 0 rfl) ?_
    refine va_get (D := (dC, dI)) (ci := 1) (v := .int (i_this 2)) (C := RX2) (T := TX2) (N := 5) hx hb hts inX2 hown hK hP 0 rfl rfl 2 (by decide) (hts _ (kq q_101 rfl)) (fun _ h9 => h9) rfl dX2_mostAt_16 ?_
    refine lv_aload_n hx hb dX2_mostAt_19 rfl (lv_at hl 0 rfl) ?_
    refine va_get (D := (dC, dI)) (ci := 1) (v := .int (i_this 3)) (C := RX2) (T := TX2) (N := 5) hx hb hts inX2 hown hK hP 0 rfl rfl 3 (by decide) (hts _ (kq q_102 rfl)) (fun _ h9 => h9) rfl dX2_mostAt_20 ?_
    obtain ⟨r4, hc5, h⟩ := bd1_at h
    refine kjSI (kS0 (own := "DateSpans$MomentReader") (As := [.int (i_this 2), .int (i_this 3)]) (rest := []) ⟨hx, hb, hml, hown, hts⟩ (kX1_monthLength l N (i_this 2) (i_this 3) r4 hc5) (kgS (kq q_753 rfl) (kq q_321 rfl) (kq q_28 rfl) (kq q_322 rfl)) yd_X1_monthLength ⟨Nat.le_of_ble_eq_true rfl, Nat.le_of_ble_eq_true rfl⟩ rfl rfl hl.1 rfl (lv_room (Nat.le_of_ble_eq_true rfl)) dX2_mostAt_23) ?_
    obtain rfl := pj1 h
    exact hEnd _ _ _ _ hP hS dX2_mostAt_26 rfl
  have h := ite_f c1 h
  refine lv_bipush (v := (12 : Int32)) hx hb dX2_mostAt_6 (by decide) ?_
  obtain rfl := pj1 h
  exact hEnd _ _ _ _ hP hS dX2_mostAt_8 rfl
noncomputable def fX2_fitsDigit_j94 (N : Nat)  (v1 : Int32) (v3 : Int32) (t0 : Int32) (i_this : Nat → Int32) : Option (Int32 × (Nat → Int32)) := (if v3 = (0 : Int32) then (if (i_this 4) < t0 then (some ((0 : Int32), i_this)) else (bd1 (fX2_mostAt N v1 i_this) fun r3 => (if r3 < (i_this 4) then (some ((0 : Int32), i_this)) else (some ((1 : Int32), i_this))))) else (bd1 (fX2_mostAt N v1 i_this) fun r6 => (if r6 < ((i_this 4) * (10 : Int32)) then (some ((0 : Int32), i_this)) else (some ((1 : Int32), i_this)))))
noncomputable def fX2_fitsDigit_j57 (N : Nat)  (v1 : Int32) (v3 : Int32) (t0 : Int32) (i_this : Nat → Int32) : Option (Int32 × (Nat → Int32)) := (if (4 : Int32) ≤ v1 then (if (10 : Int32) ≤ v1 then (fX2_fitsDigit_j94 N v1 v3 (0 : Int32) (upd i_this 4 t0)) else (fX2_fitsDigit_j94 N v1 v3 (1 : Int32) (upd i_this 4 t0))) else (if v1 < (3 : Int32) then (some ((1 : Int32), (upd i_this 4 t0))) else (if t0 ≤ (0 : Int32) then (some ((0 : Int32), (upd i_this 4 t0))) else (some ((1 : Int32), (upd i_this 4 t0))))))
noncomputable def fX2_fitsDigit_j38 (N : Nat)  (v1 : Int32) (v2 : Int32) (t0 : Int32) (i_this : Nat → Int32) : Option (Int32 × (Nat → Int32)) := (if t0 = (0 : Int32) then (fX2_fitsDigit_j57 N v1 t0 (((i_this 4) * (10 : Int32)) + v2) i_this) else (fX2_fitsDigit_j57 N v1 t0 v2 i_this))
noncomputable def fX2_fitsDigit (N : Nat) (p1 : Int32) (p2 : Int32) (i_this : Nat → Int32) : Option (Int32 × (Nat → Int32)) := (if p1 = (0 : Int32) then (fX2_fitsDigit_j38 N p1 p2 (1 : Int32) i_this) else (if p1 = (5 : Int32) then (fX2_fitsDigit_j38 N p1 p2 (1 : Int32) i_this) else (if p1 = (8 : Int32) then (fX2_fitsDigit_j38 N p1 p2 (1 : Int32) i_this) else (if p1 = (11 : Int32) then (fX2_fitsDigit_j38 N p1 p2 (1 : Int32) i_this) else (if p1 = (14 : Int32) then (fX2_fitsDigit_j38 N p1 p2 (1 : Int32) i_this) else (if p1 = (17 : Int32) then (fX2_fitsDigit_j38 N p1 p2 (1 : Int32) i_this) else (fX2_fitsDigit_j38 N p1 p2 (0 : Int32) i_this)))))))
set_option maxHeartbeats 4000000 in
set_option maxRecDepth 100000 in
theorem kX2_fitsDigit (l : Launch) (dC : Nat → ClassId) (dI : Nat → Nat → Nat) (cI cJ cB : ClassId) (h_this : Nat) (N : Nat) (p1 : Int32) (p2 : Int32) (i_this : Nat → Int32) (r : Int32) (o_i_this : Nat → Int32) (hf : fX2_fitsDigit N p1 p2 i_this = some (r, o_i_this)) : MI l yX2_fitsDigit (kws yX2_fitsDigit cX2_fitsDigit 5 (some .boolean)) (kR 3 62) (dC, dI) (kT cI cJ cB) [.ref h_this, .int p1, .int p2] [cl_X2 h_this i_this] [cl_X2 h_this o_i_this] r := by
  refine MI.of (cc := cX2_fitsDigit) (maxL := 5) (by decide) (Nat.le_of_ble_eq_true rfl) (fun p e s m args below meth c A Q ls KC hN hK hP hD hA hl hEnd => ?_)
  obtain ⟨hx, hb, hml, hown, hts⟩ := KC
  have hown : s.vm.findClass "DateSpans$MomentReader" = some m.cls := hown
  have hl : lv_has ls 5 [(0, .ref h_this), (1, .int p1), (2, .int p2)] := hl
  have hS : va_S A s.heap s.heap [] := va_S.rf
  have JN_94 : ∀ (v1 : Int32) (v3 : Int32) (t0 : Int32) (i_this : Nat → Int32) (ls : Array Slot) (H : Heap) (locs : List Loc), (fX2_fitsDigit_j94 N) v1 v3 t0 i_this = some (r, o_i_this) → lv_has ls 5 [(0, .ref h_this), (1, .int v1), (3, .int v3)] → va_P (dC, dI) vwCl [cl_X2 h_this i_this] H → va_D A [cl_X2 h_this i_this] → va_S A s.heap H locs → W p l e (kR 3 62) s m args below meth c H locs 0 0 Q (F0 m 94 ls [.int t0]) := by
    intro v1 v3 t0 i_this ls H locs h hl hP hD hS
    unfold fX2_fitsDigit_j94 at h
    refine lv_istore (lv' := [(4, .int t0), (0, .ref h_this), (1, .int v1), (3, .int v3)]) hx hb dX2_fitsDigit_94 hl (by decide) rfl (fun ls hl => ?_)
    refine lv_iload_n hx hb dX2_fitsDigit_96 rfl (lv_at hl 3 rfl) ?_
    refine lv_if_eq (tgt := 123) hx hb dX2_fitsDigit_97 (by decide) (fun c1 => ?_) (fun c1 => ?_)
    · have h := ite_t c1 h
      refine lv_aload_n hx hb dX2_fitsDigit_123 rfl (lv_at hl 1 rfl) ?_
      refine va_get (D := (dC, dI)) (ci := 1) (v := .int (i_this 4)) (C := RX2) (T := TX2) (N := 5) hx hb hts inX2 hown hK hP 0 rfl rfl 4 (by decide) (hts _ (kq q_103 rfl)) (fun _ h9 => h9) rfl dX2_fitsDigit_124 ?_
      refine lv_iload hx hb dX2_fitsDigit_127 (lv_at hl 0 rfl) ?_
      refine lv_icmp_lt (tgt := 148) hx hb dX2_fitsDigit_129 (by decide) (fun c2 => ?_) (fun c2 => ?_)
      · have h := ite_t c2 h
        refine lv_iconst (v := (0 : Int32)) hx hb dX2_fitsDigit_148 (by decide) ?_
        obtain ⟨rfl, rfl⟩ := pj2 h
        exact hEnd _ _ _ _ hP hS dX2_fitsDigit_149 rfl
      have h := ite_f c2 h
      refine lv_aload_n hx hb dX2_fitsDigit_132 rfl (lv_at hl 1 rfl) ?_
      refine va_get (D := (dC, dI)) (ci := 1) (v := .int (i_this 4)) (C := RX2) (T := TX2) (N := 5) hx hb hts inX2 hown hK hP 0 rfl rfl 4 (by decide) (hts _ (kq q_103 rfl)) (fun _ h9 => h9) rfl dX2_fitsDigit_133 ?_
      refine lv_aload_n hx hb dX2_fitsDigit_136 rfl (lv_at hl 1 rfl) ?_
      refine lv_iload_n hx hb dX2_fitsDigit_137 rfl (lv_at hl 2 rfl) ?_
      obtain ⟨r3, hc4, h⟩ := bd1_at h
      refine kjI (kV (own := "DateSpans$MomentReader") (C := "DateSpans$MomentReader") (b := h_this) (As := [.int v1]) (rest := [.int (i_this 4)]) ⟨hx, hb, hml, hown, hts⟩ (kX2_mostAt l dC dI cI cJ cB h_this N v1 i_this r3 hc4 _) (kgV (kq q_749 rfl) (kq q_751 rfl) (kq q_14 rfl) (kq q_22 rfl) (kq q_752 rfl)) yd_X2_mostAt ⟨Nat.le_of_ble_eq_true rfl, Nat.le_of_ble_eq_true rfl⟩ hN hK hP hD [0] rfl rfl (ci := 1) rfl rfl rfl rfl rfl hl.1 rfl (lv_room (Nat.le_of_ble_eq_true rfl)) dX2_fitsDigit_138) hP hD hS hA [0] rfl rfl (fun H locs hP hD hS => ?_)
      have hP : va_P (dC, dI) vwCl [cl_X2 h_this i_this] H := hP
      have hD : va_D A [cl_X2 h_this i_this] := hD
      refine lv_icmp_gt (tgt := 148) hx hb dX2_fitsDigit_141 (by decide) (fun c5 => ?_) (fun c5 => ?_)
      · have h := ite_t c5 h
        refine lv_iconst (v := (0 : Int32)) hx hb dX2_fitsDigit_148 (by decide) ?_
        obtain ⟨rfl, rfl⟩ := pj2 h
        exact hEnd _ _ _ _ hP hS dX2_fitsDigit_149 rfl
      have h := ite_f c5 h
      refine lv_iconst (v := (1 : Int32)) hx hb dX2_fitsDigit_144 (by decide) ?_
      refine lv_goto (tgt := 149) hx hb dX2_fitsDigit_145 (by decide) ?_
      obtain ⟨rfl, rfl⟩ := pj2 h
      exact hEnd _ _ _ _ hP hS dX2_fitsDigit_149 rfl
    have h := ite_f c1 h
    refine lv_aload_n hx hb dX2_fitsDigit_100 rfl (lv_at hl 1 rfl) ?_
    refine va_get (D := (dC, dI)) (ci := 1) (v := .int (i_this 4)) (C := RX2) (T := TX2) (N := 5) hx hb hts inX2 hown hK hP 0 rfl rfl 4 (by decide) (hts _ (kq q_103 rfl)) (fun _ h9 => h9) rfl dX2_fitsDigit_101 ?_
    refine lv_bipush (v := (10 : Int32)) hx hb dX2_fitsDigit_104 (by decide) ?_
    refine lv_imul hx hb dX2_fitsDigit_106 ?_
    refine lv_aload_n hx hb dX2_fitsDigit_107 rfl (lv_at hl 1 rfl) ?_
    refine lv_iload_n hx hb dX2_fitsDigit_108 rfl (lv_at hl 2 rfl) ?_
    obtain ⟨r6, hc7, h⟩ := bd1_at h
    refine kjI (kV (own := "DateSpans$MomentReader") (C := "DateSpans$MomentReader") (b := h_this) (As := [.int v1]) (rest := [.int ((i_this 4) * (10 : Int32))]) ⟨hx, hb, hml, hown, hts⟩ (kX2_mostAt l dC dI cI cJ cB h_this N v1 i_this r6 hc7 _) (kgV (kq q_749 rfl) (kq q_751 rfl) (kq q_14 rfl) (kq q_22 rfl) (kq q_752 rfl)) yd_X2_mostAt ⟨Nat.le_of_ble_eq_true rfl, Nat.le_of_ble_eq_true rfl⟩ hN hK hP hD [0] rfl rfl (ci := 1) rfl rfl rfl rfl rfl hl.1 rfl (lv_room (Nat.le_of_ble_eq_true rfl)) dX2_fitsDigit_109) hP hD hS hA [0] rfl rfl (fun H locs hP hD hS => ?_)
    have hP : va_P (dC, dI) vwCl [cl_X2 h_this i_this] H := hP
    have hD : va_D A [cl_X2 h_this i_this] := hD
    refine lv_icmp_gt (tgt := 119) hx hb dX2_fitsDigit_112 (by decide) (fun c8 => ?_) (fun c8 => ?_)
    · have h := ite_t c8 h
      refine lv_iconst (v := (0 : Int32)) hx hb dX2_fitsDigit_119 (by decide) ?_
      refine lv_goto (tgt := 149) hx hb dX2_fitsDigit_120 (by decide) ?_
      obtain ⟨rfl, rfl⟩ := pj2 h
      exact hEnd _ _ _ _ hP hS dX2_fitsDigit_149 rfl
    have h := ite_f c8 h
    refine lv_iconst (v := (1 : Int32)) hx hb dX2_fitsDigit_115 (by decide) ?_
    refine lv_goto (tgt := 149) hx hb dX2_fitsDigit_116 (by decide) ?_
    obtain ⟨rfl, rfl⟩ := pj2 h
    exact hEnd _ _ _ _ hP hS dX2_fitsDigit_149 rfl
  have JN_57 : ∀ (v1 : Int32) (v3 : Int32) (t0 : Int32) (i_this : Nat → Int32) (ls : Array Slot) (H : Heap) (locs : List Loc), (fX2_fitsDigit_j57 N) v1 v3 t0 i_this = some (r, o_i_this) → lv_has ls 5 [(0, .ref h_this), (1, .int v1), (3, .int v3)] → va_P (dC, dI) vwCl [cl_X2 h_this i_this] H → va_D A [cl_X2 h_this i_this] → va_S A s.heap H locs → W p l e (kR 3 62) s m args below meth c H locs 0 0 Q (F0 m 57 ls [.int t0, .ref h_this]) := by
    intro v1 v3 t0 i_this ls H locs h hl hP hD hS
    unfold fX2_fitsDigit_j57 at h
    refine va_put (D := (dC, dI)) (ci := 1) (v := .int t0) (ty := .int) (C := RX2) (T := TX2) (N := 5) hx hb hts inX2 tyX2 tyX2_ok nmX2 hown hK hP hD hS 0 rfl rfl 4 (by decide) (hts _ (kq q_103 rfl)) (fun _ h9 => h9) rfl (by decide +kernel) rfl rfl (Nat.le_of_ble_eq_true rfl) dX2_fitsDigit_57 (fun H locs hP hD hS => ?_)
    have hP : va_P (dC, dI) vwCl [(h_this, .inr (1, [.int (i_this 0), .int (i_this 1), .int (i_this 2), .int (i_this 3), .int t0]))] H := hP
    have hD : va_D A [(h_this, .inr (1, [.int (i_this 0), .int (i_this 1), .int (i_this 2), .int (i_this 3), .int t0]))] := hD
    refine lv_iload_n hx hb dX2_fitsDigit_60 rfl (lv_at hl 1 rfl) ?_
    refine lv_iconst (v := (4 : Int32)) hx hb dX2_fitsDigit_61 (by decide) ?_
    refine lv_icmp_ge (tgt := 83) hx hb dX2_fitsDigit_62 (by decide) (fun c9 => ?_) (fun c9 => ?_)
    · have h := ite_t c9 h
      refine lv_iload_n hx hb dX2_fitsDigit_83 rfl (lv_at hl 1 rfl) ?_
      refine lv_bipush (v := (10 : Int32)) hx hb dX2_fitsDigit_84 (by decide) ?_
      refine lv_icmp_ge (tgt := 93) hx hb dX2_fitsDigit_86 (by decide) (fun c10 => ?_) (fun c10 => ?_)
      · have h := ite_t c10 h
        refine lv_iconst (v := (0 : Int32)) hx hb dX2_fitsDigit_93 (by decide) ?_
        have hP : va_P (dC, dI) vwCl [cl_X2 h_this (upd i_this 4 t0)] H := hP
        have hD : va_D A [cl_X2 h_this (upd i_this 4 t0)] := hD
        exact JN_94 _ _ _ _ _ _ _ h (lv_sub hl [0, 1, 2] rfl) hP hD hS
      have h := ite_f c10 h
      refine lv_iconst (v := (1 : Int32)) hx hb dX2_fitsDigit_89 (by decide) ?_
      refine lv_goto (tgt := 94) hx hb dX2_fitsDigit_90 (by decide) ?_
      have hP : va_P (dC, dI) vwCl [cl_X2 h_this (upd i_this 4 t0)] H := hP
      have hD : va_D A [cl_X2 h_this (upd i_this 4 t0)] := hD
      exact JN_94 _ _ _ _ _ _ _ h (lv_sub hl [0, 1, 2] rfl) hP hD hS
    have h := ite_f c9 h
    refine lv_iload_n hx hb dX2_fitsDigit_65 rfl (lv_at hl 1 rfl) ?_
    refine lv_iconst (v := (3 : Int32)) hx hb dX2_fitsDigit_66 (by decide) ?_
    refine lv_icmp_lt (tgt := 77) hx hb dX2_fitsDigit_67 (by decide) (fun c11 => ?_) (fun c11 => ?_)
    · have h := ite_t c11 h
      refine lv_iconst (v := (1 : Int32)) hx hb dX2_fitsDigit_77 (by decide) ?_
      refine lv_goto (tgt := 82) hx hb dX2_fitsDigit_78 (by decide) ?_
      have hP : va_P (dC, dI) vwCl [cl_X2 h_this (upd i_this 4 t0)] H := hP
      have hD : va_D A [cl_X2 h_this (upd i_this 4 t0)] := hD
      obtain ⟨rfl, rfl⟩ := pj2 h
      exact hEnd _ _ _ _ hP hS dX2_fitsDigit_82 rfl
    have h := ite_f c11 h
    refine lv_aload_n hx hb dX2_fitsDigit_70 rfl (lv_at hl 0 rfl) ?_
    refine va_get (D := (dC, dI)) (ci := 1) (v := .int t0) (C := RX2) (T := TX2) (N := 5) hx hb hts inX2 hown hK hP 0 rfl rfl 4 (by decide) (hts _ (kq q_103 rfl)) (fun _ h9 => h9) rfl dX2_fitsDigit_71 ?_
    refine lv_if_le (tgt := 81) hx hb dX2_fitsDigit_74 (by decide) (fun c12 => ?_) (fun c12 => ?_)
    · have h := ite_t c12 h
      refine lv_iconst (v := (0 : Int32)) hx hb dX2_fitsDigit_81 (by decide) ?_
      have hP : va_P (dC, dI) vwCl [cl_X2 h_this (upd i_this 4 t0)] H := hP
      have hD : va_D A [cl_X2 h_this (upd i_this 4 t0)] := hD
      obtain ⟨rfl, rfl⟩ := pj2 h
      exact hEnd _ _ _ _ hP hS dX2_fitsDigit_82 rfl
    have h := ite_f c12 h
    refine lv_iconst (v := (1 : Int32)) hx hb dX2_fitsDigit_77 (by decide) ?_
    refine lv_goto (tgt := 82) hx hb dX2_fitsDigit_78 (by decide) ?_
    have hP : va_P (dC, dI) vwCl [cl_X2 h_this (upd i_this 4 t0)] H := hP
    have hD : va_D A [cl_X2 h_this (upd i_this 4 t0)] := hD
    obtain ⟨rfl, rfl⟩ := pj2 h
    exact hEnd _ _ _ _ hP hS dX2_fitsDigit_82 rfl
  have JN_38 : ∀ (v1 : Int32) (v2 : Int32) (t0 : Int32) (i_this : Nat → Int32) (ls : Array Slot) (H : Heap) (locs : List Loc), (fX2_fitsDigit_j38 N) v1 v2 t0 i_this = some (r, o_i_this) → lv_has ls 5 [(0, .ref h_this), (1, .int v1), (2, .int v2)] → va_P (dC, dI) vwCl [cl_X2 h_this i_this] H → va_D A [cl_X2 h_this i_this] → va_S A s.heap H locs → W p l e (kR 3 62) s m args below meth c H locs 0 0 Q (F0 m 38 ls [.int t0]) := by
    intro v1 v2 t0 i_this ls H locs h hl hP hD hS
    unfold fX2_fitsDigit_j38 at h
    refine lv_istore_n (lv' := [(3, .int t0), (0, .ref h_this), (1, .int v1), (2, .int v2)]) hx hb dX2_fitsDigit_38 rfl hl (by decide) rfl (fun ls hl => ?_)
    refine lv_aload_n hx hb dX2_fitsDigit_39 rfl (lv_at hl 1 rfl) ?_
    refine lv_iload_n hx hb dX2_fitsDigit_40 rfl (lv_at hl 0 rfl) ?_
    refine lv_if_eq (tgt := 48) hx hb dX2_fitsDigit_41 (by decide) (fun c13 => ?_) (fun c13 => ?_)
    · have h := ite_t c13 h
      refine lv_aload_n hx hb dX2_fitsDigit_48 rfl (lv_at hl 1 rfl) ?_
      refine va_get (D := (dC, dI)) (ci := 1) (v := .int (i_this 4)) (C := RX2) (T := TX2) (N := 5) hx hb hts inX2 hown hK hP 0 rfl rfl 4 (by decide) (hts _ (kq q_103 rfl)) (fun _ h9 => h9) rfl dX2_fitsDigit_49 ?_
      refine lv_bipush (v := (10 : Int32)) hx hb dX2_fitsDigit_52 (by decide) ?_
      refine lv_imul hx hb dX2_fitsDigit_54 ?_
      refine lv_iload_n hx hb dX2_fitsDigit_55 rfl (lv_at hl 3 rfl) ?_
      refine lv_iadd hx hb dX2_fitsDigit_56 ?_
      exact JN_57 _ _ _ _ _ _ _ h (lv_sub hl [1, 2, 0] rfl) hP hD hS
    have h := ite_f c13 h
    refine lv_iload_n hx hb dX2_fitsDigit_44 rfl (lv_at hl 3 rfl) ?_
    refine lv_goto (tgt := 57) hx hb dX2_fitsDigit_45 (by decide) ?_
    exact JN_57 _ _ _ _ _ _ _ h (lv_sub hl [1, 2, 0] rfl) hP hD hS
  have h := hf
  unfold fX2_fitsDigit at h
  refine lv_iload_n hx hb dX2_fitsDigit_0 rfl (lv_at hl 1 rfl) ?_
  refine lv_if_eq (tgt := 33) hx hb dX2_fitsDigit_1 (by decide) (fun c14 => ?_) (fun c14 => ?_)
  · have h := ite_t c14 h
    refine lv_iconst (v := (1 : Int32)) hx hb dX2_fitsDigit_33 (by decide) ?_
    refine lv_goto (tgt := 38) hx hb dX2_fitsDigit_34 (by decide) ?_
    exact JN_38 _ _ _ _ _ _ _ h (lv_sub hl [0, 1, 2] rfl) hP hD hS
  have h := ite_f c14 h
  refine lv_iload_n hx hb dX2_fitsDigit_4 rfl (lv_at hl 1 rfl) ?_
  refine lv_iconst (v := (5 : Int32)) hx hb dX2_fitsDigit_5 (by decide) ?_
  refine lv_icmp_eq (tgt := 33) hx hb dX2_fitsDigit_6 (by decide) (fun c15 => ?_) (fun c15 => ?_)
  · have h := ite_t c15 h
    refine lv_iconst (v := (1 : Int32)) hx hb dX2_fitsDigit_33 (by decide) ?_
    refine lv_goto (tgt := 38) hx hb dX2_fitsDigit_34 (by decide) ?_
    exact JN_38 _ _ _ _ _ _ _ h (lv_sub hl [0, 1, 2] rfl) hP hD hS
  have h := ite_f c15 h
  refine lv_iload_n hx hb dX2_fitsDigit_9 rfl (lv_at hl 1 rfl) ?_
  refine lv_bipush (v := (8 : Int32)) hx hb dX2_fitsDigit_10 (by decide) ?_
  refine lv_icmp_eq (tgt := 33) hx hb dX2_fitsDigit_12 (by decide) (fun c16 => ?_) (fun c16 => ?_)
  · have h := ite_t c16 h
    refine lv_iconst (v := (1 : Int32)) hx hb dX2_fitsDigit_33 (by decide) ?_
    refine lv_goto (tgt := 38) hx hb dX2_fitsDigit_34 (by decide) ?_
    exact JN_38 _ _ _ _ _ _ _ h (lv_sub hl [0, 1, 2] rfl) hP hD hS
  have h := ite_f c16 h
  refine lv_iload_n hx hb dX2_fitsDigit_15 rfl (lv_at hl 1 rfl) ?_
  refine lv_bipush (v := (11 : Int32)) hx hb dX2_fitsDigit_16 (by decide) ?_
  refine lv_icmp_eq (tgt := 33) hx hb dX2_fitsDigit_18 (by decide) (fun c17 => ?_) (fun c17 => ?_)
  · have h := ite_t c17 h
    refine lv_iconst (v := (1 : Int32)) hx hb dX2_fitsDigit_33 (by decide) ?_
    refine lv_goto (tgt := 38) hx hb dX2_fitsDigit_34 (by decide) ?_
    exact JN_38 _ _ _ _ _ _ _ h (lv_sub hl [0, 1, 2] rfl) hP hD hS
  have h := ite_f c17 h
  refine lv_iload_n hx hb dX2_fitsDigit_21 rfl (lv_at hl 1 rfl) ?_
  refine lv_bipush (v := (14 : Int32)) hx hb dX2_fitsDigit_22 (by decide) ?_
  refine lv_icmp_eq (tgt := 33) hx hb dX2_fitsDigit_24 (by decide) (fun c18 => ?_) (fun c18 => ?_)
  · have h := ite_t c18 h
    refine lv_iconst (v := (1 : Int32)) hx hb dX2_fitsDigit_33 (by decide) ?_
    refine lv_goto (tgt := 38) hx hb dX2_fitsDigit_34 (by decide) ?_
    exact JN_38 _ _ _ _ _ _ _ h (lv_sub hl [0, 1, 2] rfl) hP hD hS
  have h := ite_f c18 h
  refine lv_iload_n hx hb dX2_fitsDigit_27 rfl (lv_at hl 1 rfl) ?_
  refine lv_bipush (v := (17 : Int32)) hx hb dX2_fitsDigit_28 (by decide) ?_
  refine lv_icmp_ne (tgt := 37) hx hb dX2_fitsDigit_30 (by decide) (fun c19 => ?_) (fun c19 => ?_)
  · have h := ite_f c19 h
    refine lv_iconst (v := (0 : Int32)) hx hb dX2_fitsDigit_37 (by decide) ?_
    exact JN_38 _ _ _ _ _ _ _ h (lv_sub hl [0, 1, 2] rfl) hP hD hS
  have h := ite_t c19 h
  refine lv_iconst (v := (1 : Int32)) hx hb dX2_fitsDigit_33 (by decide) ?_
  refine lv_goto (tgt := 38) hx hb dX2_fitsDigit_34 (by decide) ?_
  exact JN_38 _ _ _ _ _ _ _ h (lv_sub hl [0, 1, 2] rfl) hP hD hS
noncomputable def fX2_fits_j104 (N : Nat)  (v1 : Int32) (v2 : Int32) (i_this : Nat → Int32) : Option (Int32 × (Nat → Int32)) := (if v2 < (48 : Int32) then (some ((0 : Int32), i_this)) else (if (57 : Int32) < v2 then (some ((0 : Int32), i_this)) else (bd2 (fX2_fitsDigit N v1 (v2 - (48 : Int32)) i_this) fun r3 i_this_4 => (if r3 = (0 : Int32) then (some ((0 : Int32), i_this_4)) else (some ((1 : Int32), i_this_4))))))
noncomputable def fX2_fits (N : Nat) (p1 : Int32) (p2 : Int32) (i_this : Nat → Int32) : Option (Int32 × (Nat → Int32)) := (if p1 = (4 : Int32) then (if p2 = (45 : Int32) then (some ((1 : Int32), i_this)) else (some ((0 : Int32), i_this))) else (if p1 = (5 : Int32) then (fX2_fits_j104 N p1 p2 i_this) else (if p1 = (6 : Int32) then (fX2_fits_j104 N p1 p2 i_this) else (if p1 = (7 : Int32) then (if p2 = (45 : Int32) then (some ((1 : Int32), i_this)) else (some ((0 : Int32), i_this))) else (if p1 = (8 : Int32) then (fX2_fits_j104 N p1 p2 i_this) else (if p1 = (9 : Int32) then (fX2_fits_j104 N p1 p2 i_this) else (if p1 = (10 : Int32) then (if p2 = (84 : Int32) then (some ((1 : Int32), i_this)) else (some ((0 : Int32), i_this))) else (if p1 = (11 : Int32) then (fX2_fits_j104 N p1 p2 i_this) else (if p1 = (12 : Int32) then (fX2_fits_j104 N p1 p2 i_this) else (if p1 = (13 : Int32) then (if p2 = (58 : Int32) then (some ((1 : Int32), i_this)) else (some ((0 : Int32), i_this))) else (if p1 = (14 : Int32) then (fX2_fits_j104 N p1 p2 i_this) else (if p1 = (15 : Int32) then (fX2_fits_j104 N p1 p2 i_this) else (if p1 = (16 : Int32) then (if p2 = (58 : Int32) then (some ((1 : Int32), i_this)) else (some ((0 : Int32), i_this))) else (fX2_fits_j104 N p1 p2 i_this))))))))))))))
set_option maxHeartbeats 4000000 in
set_option maxRecDepth 100000 in
theorem kX2_fits (l : Launch) (dC : Nat → ClassId) (dI : Nat → Nat → Nat) (cI cJ cB : ClassId) (h_this : Nat) (N : Nat) (p1 : Int32) (p2 : Int32) (i_this : Nat → Int32) (r : Int32) (o_i_this : Nat → Int32) (hf : fX2_fits N p1 p2 i_this = some (r, o_i_this)) : MI l yX2_fits (kws yX2_fits cX2_fits 3 (some .boolean)) (kR 4 86) (dC, dI) (kT cI cJ cB) [.ref h_this, .int p1, .int p2] [cl_X2 h_this i_this] [cl_X2 h_this o_i_this] r := by
  refine MI.of (cc := cX2_fits) (maxL := 3) (by decide) (Nat.le_of_ble_eq_true rfl) (fun p e s m args below meth c A Q ls KC hN hK hP hD hA hl hEnd => ?_)
  obtain ⟨hx, hb, hml, hown, hts⟩ := KC
  have hown : s.vm.findClass "DateSpans$MomentReader" = some m.cls := hown
  have hl : lv_has ls 3 [(0, .ref h_this), (1, .int p1), (2, .int p2)] := hl
  have hS : va_S A s.heap s.heap [] := va_S.rf
  have JN_104 : ∀ (v1 : Int32) (v2 : Int32) (i_this : Nat → Int32) (ls : Array Slot) (H : Heap) (locs : List Loc), (fX2_fits_j104 N) v1 v2 i_this = some (r, o_i_this) → lv_has ls 3 [(0, .ref h_this), (1, .int v1), (2, .int v2)] → va_P (dC, dI) vwCl [cl_X2 h_this i_this] H → va_D A [cl_X2 h_this i_this] → va_S A s.heap H locs → W p l e (kR 4 86) s m args below meth c H locs 0 0 Q (F0 m 104 ls []) := by
    intro v1 v2 i_this ls H locs h hl hP hD hS
    unfold fX2_fits_j104 at h
    refine lv_iload_n hx hb dX2_fits_104 rfl (lv_at hl 2 rfl) ?_
    refine lv_bipush (v := (48 : Int32)) hx hb dX2_fits_105 (by decide) ?_
    refine lv_icmp_lt (tgt := 132) hx hb dX2_fits_107 (by decide) (fun c1 => ?_) (fun c1 => ?_)
    · have h := ite_t c1 h
      refine lv_iconst (v := (0 : Int32)) hx hb dX2_fits_132 (by decide) ?_
      obtain ⟨rfl, rfl⟩ := pj2 h
      exact hEnd _ _ _ _ hP hS dX2_fits_133 rfl
    have h := ite_f c1 h
    refine lv_iload_n hx hb dX2_fits_110 rfl (lv_at hl 2 rfl) ?_
    refine lv_bipush (v := (57 : Int32)) hx hb dX2_fits_111 (by decide) ?_
    refine lv_icmp_gt (tgt := 132) hx hb dX2_fits_113 (by decide) (fun c2 => ?_) (fun c2 => ?_)
    · have h := ite_t c2 h
      refine lv_iconst (v := (0 : Int32)) hx hb dX2_fits_132 (by decide) ?_
      obtain ⟨rfl, rfl⟩ := pj2 h
      exact hEnd _ _ _ _ hP hS dX2_fits_133 rfl
    have h := ite_f c2 h
    refine lv_aload_n hx hb dX2_fits_116 rfl (lv_at hl 0 rfl) ?_
    refine lv_iload_n hx hb dX2_fits_117 rfl (lv_at hl 1 rfl) ?_
    refine lv_iload_n hx hb dX2_fits_118 rfl (lv_at hl 2 rfl) ?_
    refine lv_bipush (v := (48 : Int32)) hx hb dX2_fits_119 (by decide) ?_
    refine lv_isub hx hb dX2_fits_121 ?_
    obtain ⟨r3, i_this_4, hc5, h⟩ := bd2_at h
    refine kjI (kV (own := "DateSpans$MomentReader") (C := "DateSpans$MomentReader") (b := h_this) (As := [.int v1, .int (v2 - (48 : Int32))]) (rest := []) ⟨hx, hb, hml, hown, hts⟩ (kX2_fitsDigit l dC dI cI cJ cB h_this N v1 (v2 - (48 : Int32)) i_this r3 i_this_4 hc5 _) (kgV (kq q_745 rfl) (kq q_747 rfl) (kq q_13 rfl) (kq q_22 rfl) (kq q_748 rfl)) yd_X2_fitsDigit ⟨Nat.le_of_ble_eq_true rfl, Nat.le_of_ble_eq_true rfl⟩ hN hK hP hD [0] rfl rfl (ci := 1) rfl rfl rfl rfl rfl hl.1 rfl (lv_room (Nat.le_of_ble_eq_true rfl)) dX2_fits_122) hP hD hS hA [0] rfl rfl (fun H locs hP hD hS => ?_)
    have hP : va_P (dC, dI) vwCl [cl_X2 h_this i_this_4] H := hP
    have hD : va_D A [cl_X2 h_this i_this_4] := hD
    refine lv_if_eq (tgt := 132) hx hb dX2_fits_125 (by decide) (fun c6 => ?_) (fun c6 => ?_)
    · have h := ite_t c6 h
      refine lv_iconst (v := (0 : Int32)) hx hb dX2_fits_132 (by decide) ?_
      obtain ⟨rfl, rfl⟩ := pj2 h
      exact hEnd _ _ _ _ hP hS dX2_fits_133 rfl
    have h := ite_f c6 h
    refine lv_iconst (v := (1 : Int32)) hx hb dX2_fits_128 (by decide) ?_
    refine lv_goto (tgt := 133) hx hb dX2_fits_129 (by decide) ?_
    obtain ⟨rfl, rfl⟩ := pj2 h
    exact hEnd _ _ _ _ hP hS dX2_fits_133 rfl
  have h := hf
  unfold fX2_fits at h
  refine lv_iload_n hx hb dX2_fits_0 rfl (lv_at hl 1 rfl) ?_
  by_cases c7 : p1 = (4 : Int32)
  · have h := ite_t c7 h
    refine lv_tableIn (x := p1) (tgt := 68) hx hb dX2_fits_1 (by rw [c7]; decide) (by rw [c7]; decide) (by rw [c7]; rfl) (by decide) ?_
    refine lv_iload_n hx hb dX2_fits_68 rfl (lv_at hl 2 rfl) ?_
    refine lv_bipush (v := (45 : Int32)) hx hb dX2_fits_69 (by decide) ?_
    refine lv_icmp_ne (tgt := 78) hx hb dX2_fits_71 (by decide) (fun c8 => ?_) (fun c8 => ?_)
    · have h := ite_f c8 h
      refine lv_iconst (v := (0 : Int32)) hx hb dX2_fits_78 (by decide) ?_
      obtain ⟨rfl, rfl⟩ := pj2 h
      exact hEnd _ _ _ _ hP hS dX2_fits_79 rfl
    have h := ite_t c8 h
    refine lv_iconst (v := (1 : Int32)) hx hb dX2_fits_74 (by decide) ?_
    refine lv_goto (tgt := 79) hx hb dX2_fits_75 (by decide) ?_
    obtain ⟨rfl, rfl⟩ := pj2 h
    exact hEnd _ _ _ _ hP hS dX2_fits_79 rfl
  have h := ite_f c7 h
  by_cases c9 : p1 = (5 : Int32)
  · have h := ite_t c9 h
    refine lv_tableIn (x := p1) (tgt := 104) hx hb dX2_fits_1 (by rw [c9]; decide) (by rw [c9]; decide) (by rw [c9]; rfl) (by decide) ?_
    exact JN_104 _ _ _ _ _ _ h (lv_sub hl [0, 1, 2] rfl) hP hD hS
  have h := ite_f c9 h
  by_cases c10 : p1 = (6 : Int32)
  · have h := ite_t c10 h
    refine lv_tableIn (x := p1) (tgt := 104) hx hb dX2_fits_1 (by rw [c10]; decide) (by rw [c10]; decide) (by rw [c10]; rfl) (by decide) ?_
    exact JN_104 _ _ _ _ _ _ h (lv_sub hl [0, 1, 2] rfl) hP hD hS
  have h := ite_f c10 h
  by_cases c11 : p1 = (7 : Int32)
  · have h := ite_t c11 h
    refine lv_tableIn (x := p1) (tgt := 68) hx hb dX2_fits_1 (by rw [c11]; decide) (by rw [c11]; decide) (by rw [c11]; rfl) (by decide) ?_
    refine lv_iload_n hx hb dX2_fits_68 rfl (lv_at hl 2 rfl) ?_
    refine lv_bipush (v := (45 : Int32)) hx hb dX2_fits_69 (by decide) ?_
    refine lv_icmp_ne (tgt := 78) hx hb dX2_fits_71 (by decide) (fun c12 => ?_) (fun c12 => ?_)
    · have h := ite_f c12 h
      refine lv_iconst (v := (0 : Int32)) hx hb dX2_fits_78 (by decide) ?_
      obtain ⟨rfl, rfl⟩ := pj2 h
      exact hEnd _ _ _ _ hP hS dX2_fits_79 rfl
    have h := ite_t c12 h
    refine lv_iconst (v := (1 : Int32)) hx hb dX2_fits_74 (by decide) ?_
    refine lv_goto (tgt := 79) hx hb dX2_fits_75 (by decide) ?_
    obtain ⟨rfl, rfl⟩ := pj2 h
    exact hEnd _ _ _ _ hP hS dX2_fits_79 rfl
  have h := ite_f c11 h
  by_cases c13 : p1 = (8 : Int32)
  · have h := ite_t c13 h
    refine lv_tableIn (x := p1) (tgt := 104) hx hb dX2_fits_1 (by rw [c13]; decide) (by rw [c13]; decide) (by rw [c13]; rfl) (by decide) ?_
    exact JN_104 _ _ _ _ _ _ h (lv_sub hl [0, 1, 2] rfl) hP hD hS
  have h := ite_f c13 h
  by_cases c14 : p1 = (9 : Int32)
  · have h := ite_t c14 h
    refine lv_tableIn (x := p1) (tgt := 104) hx hb dX2_fits_1 (by rw [c14]; decide) (by rw [c14]; decide) (by rw [c14]; rfl) (by decide) ?_
    exact JN_104 _ _ _ _ _ _ h (lv_sub hl [0, 1, 2] rfl) hP hD hS
  have h := ite_f c14 h
  by_cases c15 : p1 = (10 : Int32)
  · have h := ite_t c15 h
    refine lv_tableIn (x := p1) (tgt := 80) hx hb dX2_fits_1 (by rw [c15]; decide) (by rw [c15]; decide) (by rw [c15]; rfl) (by decide) ?_
    refine lv_iload_n hx hb dX2_fits_80 rfl (lv_at hl 2 rfl) ?_
    refine lv_bipush (v := (84 : Int32)) hx hb dX2_fits_81 (by decide) ?_
    refine lv_icmp_ne (tgt := 90) hx hb dX2_fits_83 (by decide) (fun c16 => ?_) (fun c16 => ?_)
    · have h := ite_f c16 h
      refine lv_iconst (v := (0 : Int32)) hx hb dX2_fits_90 (by decide) ?_
      obtain ⟨rfl, rfl⟩ := pj2 h
      exact hEnd _ _ _ _ hP hS dX2_fits_91 rfl
    have h := ite_t c16 h
    refine lv_iconst (v := (1 : Int32)) hx hb dX2_fits_86 (by decide) ?_
    refine lv_goto (tgt := 91) hx hb dX2_fits_87 (by decide) ?_
    obtain ⟨rfl, rfl⟩ := pj2 h
    exact hEnd _ _ _ _ hP hS dX2_fits_91 rfl
  have h := ite_f c15 h
  by_cases c17 : p1 = (11 : Int32)
  · have h := ite_t c17 h
    refine lv_tableIn (x := p1) (tgt := 104) hx hb dX2_fits_1 (by rw [c17]; decide) (by rw [c17]; decide) (by rw [c17]; rfl) (by decide) ?_
    exact JN_104 _ _ _ _ _ _ h (lv_sub hl [0, 1, 2] rfl) hP hD hS
  have h := ite_f c17 h
  by_cases c18 : p1 = (12 : Int32)
  · have h := ite_t c18 h
    refine lv_tableIn (x := p1) (tgt := 104) hx hb dX2_fits_1 (by rw [c18]; decide) (by rw [c18]; decide) (by rw [c18]; rfl) (by decide) ?_
    exact JN_104 _ _ _ _ _ _ h (lv_sub hl [0, 1, 2] rfl) hP hD hS
  have h := ite_f c18 h
  by_cases c19 : p1 = (13 : Int32)
  · have h := ite_t c19 h
    refine lv_tableIn (x := p1) (tgt := 92) hx hb dX2_fits_1 (by rw [c19]; decide) (by rw [c19]; decide) (by rw [c19]; rfl) (by decide) ?_
    refine lv_iload_n hx hb dX2_fits_92 rfl (lv_at hl 2 rfl) ?_
    refine lv_bipush (v := (58 : Int32)) hx hb dX2_fits_93 (by decide) ?_
    refine lv_icmp_ne (tgt := 102) hx hb dX2_fits_95 (by decide) (fun c20 => ?_) (fun c20 => ?_)
    · have h := ite_f c20 h
      refine lv_iconst (v := (0 : Int32)) hx hb dX2_fits_102 (by decide) ?_
      obtain ⟨rfl, rfl⟩ := pj2 h
      exact hEnd _ _ _ _ hP hS dX2_fits_103 rfl
    have h := ite_t c20 h
    refine lv_iconst (v := (1 : Int32)) hx hb dX2_fits_98 (by decide) ?_
    refine lv_goto (tgt := 103) hx hb dX2_fits_99 (by decide) ?_
    obtain ⟨rfl, rfl⟩ := pj2 h
    exact hEnd _ _ _ _ hP hS dX2_fits_103 rfl
  have h := ite_f c19 h
  by_cases c21 : p1 = (14 : Int32)
  · have h := ite_t c21 h
    refine lv_tableIn (x := p1) (tgt := 104) hx hb dX2_fits_1 (by rw [c21]; decide) (by rw [c21]; decide) (by rw [c21]; rfl) (by decide) ?_
    exact JN_104 _ _ _ _ _ _ h (lv_sub hl [0, 1, 2] rfl) hP hD hS
  have h := ite_f c21 h
  by_cases c22 : p1 = (15 : Int32)
  · have h := ite_t c22 h
    refine lv_tableIn (x := p1) (tgt := 104) hx hb dX2_fits_1 (by rw [c22]; decide) (by rw [c22]; decide) (by rw [c22]; rfl) (by decide) ?_
    exact JN_104 _ _ _ _ _ _ h (lv_sub hl [0, 1, 2] rfl) hP hD hS
  have h := ite_f c22 h
  by_cases c23 : p1 = (16 : Int32)
  · have h := ite_t c23 h
    refine lv_tableIn (x := p1) (tgt := 92) hx hb dX2_fits_1 (by rw [c23]; decide) (by rw [c23]; decide) (by rw [c23]; rfl) (by decide) ?_
    refine lv_iload_n hx hb dX2_fits_92 rfl (lv_at hl 2 rfl) ?_
    refine lv_bipush (v := (58 : Int32)) hx hb dX2_fits_93 (by decide) ?_
    refine lv_icmp_ne (tgt := 102) hx hb dX2_fits_95 (by decide) (fun c24 => ?_) (fun c24 => ?_)
    · have h := ite_f c24 h
      refine lv_iconst (v := (0 : Int32)) hx hb dX2_fits_102 (by decide) ?_
      obtain ⟨rfl, rfl⟩ := pj2 h
      exact hEnd _ _ _ _ hP hS dX2_fits_103 rfl
    have h := ite_t c24 h
    refine lv_iconst (v := (1 : Int32)) hx hb dX2_fits_98 (by decide) ?_
    refine lv_goto (tgt := 103) hx hb dX2_fits_99 (by decide) ?_
    obtain ⟨rfl, rfl⟩ := pj2 h
    exact hEnd _ _ _ _ hP hS dX2_fits_103 rfl
  have h := ite_f c23 h
  have gc7 := kne (k := 4) (by decide) c7
  have gc9 := kne (k := 5) (by decide) c9
  have gc10 := kne (k := 6) (by decide) c10
  have gc11 := kne (k := 7) (by decide) c11
  have gc13 := kne (k := 8) (by decide) c13
  have gc14 := kne (k := 9) (by decide) c14
  have gc15 := kne (k := 10) (by decide) c15
  have gc17 := kne (k := 11) (by decide) c17
  have gc18 := kne (k := 12) (by decide) c18
  have gc19 := kne (k := 13) (by decide) c19
  have gc21 := kne (k := 14) (by decide) c21
  have gc22 := kne (k := 15) (by decide) c22
  have gc23 := kne (k := 16) (by decide) c23
  refine lv_tableOut (x := p1) (tgt := 104) hx hb dX2_fits_1 (by omega) (by decide) ?_
  exact JN_104 _ _ _ _ _ _ h (lv_sub hl [0, 1, 2] rfl) hP hD hS
noncomputable def fX1_dayOf_j28 (N : Nat)  (v2 : Int32) (v3 : Int32) (t0 : Int32) : Option (Int32) := (nm (((((365 : Int32) * v3) + (v3 / (4 : Int32))) - (v3 / (100 : Int32))) + (v3 / (400 : Int32))) fun z1 => (some ((((z1 + ((((153 : Int32) * t0) + (2 : Int32)) / (5 : Int32))) + v2) - (1 : Int32)) - (306 : Int32))))
noncomputable def fX1_dayOf_j12 (N : Nat)  (v1 : Int32) (v2 : Int32) (t0 : Int32) : Option (Int32) := (if v1 ≤ (2 : Int32) then (fX1_dayOf_j28 N v2 t0 (v1 + (9 : Int32))) else (fX1_dayOf_j28 N v2 t0 (v1 - (3 : Int32))))
noncomputable def fX1_dayOf (N : Nat) (p1 : Int32) (p2 : Int32) (p3 : Int32) : Option (Int32) := (if p2 ≤ (2 : Int32) then (fX1_dayOf_j12 N p2 p3 (p1 - (1 : Int32))) else (fX1_dayOf_j12 N p2 p3 p1))
set_option maxHeartbeats 4000000 in
set_option maxRecDepth 100000 in
theorem kX1_dayOf (l : Launch) (N : Nat) (p1 : Int32) (p2 : Int32) (p3 : Int32) (r : Int32) (hf : fX1_dayOf N p1 p2 p3 = some r) : SI l yX1_dayOf (kws yX1_dayOf cX1_dayOf 6 (some .int)) (kR 0 0) [.int p1, .int p2, .int p3] r := by
  refine SI.of (cc := cX1_dayOf) (maxL := 6) (by decide) (Nat.le_of_ble_eq_true rfl) (fun p e s m args below meth c Q ls KC hl hEnd => ?_)
  obtain ⟨hx, hb, hml, hown, hts⟩ := KC
  have hown : s.vm.findClass "DateSpans$Calendar" = some m.cls := hown
  have hl : lv_has ls 6 [(0, .int p1), (1, .int p2), (2, .int p3)] := hl
  have JN_28 : ∀ (v2 : Int32) (v3 : Int32) (t0 : Int32) (ls : Array Slot), (fX1_dayOf_j28 N) v2 v3 t0 = some r → lv_has ls 6 [(2, .int v2), (3, .int v3)] → W p l e (kR 0 0) s m args below meth c s.heap [] 0 0 Q (F0 m 28 ls [.int t0]) := by
    intro v2 v3 t0 ls h hl
    unfold fX1_dayOf_j28 at h
    refine lv_istore (lv' := [(4, .int t0), (2, .int v2), (3, .int v3)]) hx hb dX1_dayOf_28 hl (by decide) rfl (fun ls hl => ?_)
    refine lv_sipush (v := (365 : Int32)) hx hb dX1_dayOf_30 (by decide) ?_
    refine lv_iload_n hx hb dX1_dayOf_33 rfl (lv_at hl 2 rfl) ?_
    refine lv_imul hx hb dX1_dayOf_34 ?_
    refine lv_iload_n hx hb dX1_dayOf_35 rfl (lv_at hl 2 rfl) ?_
    refine lv_iconst (v := (4 : Int32)) hx hb dX1_dayOf_36 (by decide) ?_
    refine lv_idiv hx hb dX1_dayOf_37 (by decide) ?_
    refine lv_iadd hx hb dX1_dayOf_38 ?_
    refine lv_iload_n hx hb dX1_dayOf_39 rfl (lv_at hl 2 rfl) ?_
    refine lv_bipush (v := (100 : Int32)) hx hb dX1_dayOf_40 (by decide) ?_
    refine lv_idiv hx hb dX1_dayOf_42 (by decide) ?_
    refine lv_isub hx hb dX1_dayOf_43 ?_
    refine lv_iload_n hx hb dX1_dayOf_44 rfl (lv_at hl 2 rfl) ?_
    refine lv_sipush (v := (400 : Int32)) hx hb dX1_dayOf_45 (by decide) ?_
    refine lv_idiv hx hb dX1_dayOf_48 (by decide) ?_
    refine lv_iadd hx hb dX1_dayOf_49 ?_
    refine lv_topi (fun z1 ez1 => ?_)
    have h := nm_at ez1 h
    refine lv_istore (lv' := [(5, .int z1), (4, .int t0), (2, .int v2), (3, .int v3)]) hx hb dX1_dayOf_50 hl (by decide) rfl (fun ls hl => ?_)
    refine lv_iload hx hb dX1_dayOf_52 (lv_at hl 0 rfl) ?_
    refine lv_sipush (v := (153 : Int32)) hx hb dX1_dayOf_54 (by decide) ?_
    refine lv_iload hx hb dX1_dayOf_57 (lv_at hl 1 rfl) ?_
    refine lv_imul hx hb dX1_dayOf_59 ?_
    refine lv_iconst (v := (2 : Int32)) hx hb dX1_dayOf_60 (by decide) ?_
    refine lv_iadd hx hb dX1_dayOf_61 ?_
    refine lv_iconst (v := (5 : Int32)) hx hb dX1_dayOf_62 (by decide) ?_
    refine lv_idiv hx hb dX1_dayOf_63 (by decide) ?_
    refine lv_iadd hx hb dX1_dayOf_64 ?_
    refine lv_iload_n hx hb dX1_dayOf_65 rfl (lv_at hl 2 rfl) ?_
    refine lv_iadd hx hb dX1_dayOf_66 ?_
    refine lv_iconst (v := (1 : Int32)) hx hb dX1_dayOf_67 (by decide) ?_
    refine lv_isub hx hb dX1_dayOf_68 ?_
    refine lv_sipush (v := (306 : Int32)) hx hb dX1_dayOf_69 (by decide) ?_
    refine lv_isub hx hb dX1_dayOf_72 ?_
    obtain rfl := pj1 h
    exact hEnd _ _ dX1_dayOf_73 rfl
  have JN_12 : ∀ (v1 : Int32) (v2 : Int32) (t0 : Int32) (ls : Array Slot), (fX1_dayOf_j12 N) v1 v2 t0 = some r → lv_has ls 6 [(1, .int v1), (2, .int v2)] → W p l e (kR 0 0) s m args below meth c s.heap [] 0 0 Q (F0 m 12 ls [.int t0]) := by
    intro v1 v2 t0 ls h hl
    unfold fX1_dayOf_j12 at h
    refine lv_istore_n (lv' := [(3, .int t0), (1, .int v1), (2, .int v2)]) hx hb dX1_dayOf_12 rfl hl (by decide) rfl (fun ls hl => ?_)
    refine lv_iload_n hx hb dX1_dayOf_13 rfl (lv_at hl 1 rfl) ?_
    refine lv_iconst (v := (2 : Int32)) hx hb dX1_dayOf_14 (by decide) ?_
    refine lv_icmp_le (tgt := 24) hx hb dX1_dayOf_15 (by decide) (fun c2 => ?_) (fun c2 => ?_)
    · have h := ite_t c2 h
      refine lv_iload_n hx hb dX1_dayOf_24 rfl (lv_at hl 1 rfl) ?_
      refine lv_bipush (v := (9 : Int32)) hx hb dX1_dayOf_25 (by decide) ?_
      refine lv_iadd hx hb dX1_dayOf_27 ?_
      exact JN_28 _ _ _ _ h (lv_sub hl [2, 0] rfl)
    have h := ite_f c2 h
    refine lv_iload_n hx hb dX1_dayOf_18 rfl (lv_at hl 1 rfl) ?_
    refine lv_iconst (v := (3 : Int32)) hx hb dX1_dayOf_19 (by decide) ?_
    refine lv_isub hx hb dX1_dayOf_20 ?_
    refine lv_goto (tgt := 28) hx hb dX1_dayOf_21 (by decide) ?_
    exact JN_28 _ _ _ _ h (lv_sub hl [2, 0] rfl)
  have h := hf
  unfold fX1_dayOf at h
  refine lv_iload_n hx hb dX1_dayOf_0 rfl (lv_at hl 1 rfl) ?_
  refine lv_iconst (v := (2 : Int32)) hx hb dX1_dayOf_1 (by decide) ?_
  refine lv_icmp_le (tgt := 9) hx hb dX1_dayOf_2 (by decide) (fun c3 => ?_) (fun c3 => ?_)
  · have h := ite_t c3 h
    refine lv_iload_n hx hb dX1_dayOf_9 rfl (lv_at hl 0 rfl) ?_
    refine lv_iconst (v := (1 : Int32)) hx hb dX1_dayOf_10 (by decide) ?_
    refine lv_isub hx hb dX1_dayOf_11 ?_
    exact JN_12 _ _ _ _ h (lv_sub hl [1, 2] rfl)
  have h := ite_f c3 h
  refine lv_iload_n hx hb dX1_dayOf_5 rfl (lv_at hl 0 rfl) ?_
  refine lv_goto (tgt := 12) hx hb dX1_dayOf_6 (by decide) ?_
  exact JN_12 _ _ _ _ h (lv_sub hl [1, 2] rfl)
noncomputable def fX2_keepNumber (N : Nat) (p1 : Int32) (i_this : Nat → Int32) : Option ((Nat → Int32)) := (if p1 = (3 : Int32) then (some (upd i_this 2 (i_this 4))) else (if p1 = (4 : Int32) then (some i_this) else (if p1 = (5 : Int32) then (some i_this) else (if p1 = (6 : Int32) then (some (upd i_this 3 (i_this 4))) else (if p1 = (7 : Int32) then (some i_this) else (if p1 = (8 : Int32) then (some i_this) else (if p1 = (9 : Int32) then (bd1 (fX1_dayOf N (i_this 2) (i_this 3) (i_this 4)) fun r8 => (some (upd i_this 0 r8))) else (if p1 = (10 : Int32) then (some i_this) else (if p1 = (11 : Int32) then (some i_this) else (if p1 = (12 : Int32) then (some (upd i_this 1 ((3600 : Int32) * (i_this 4)))) else (if p1 = (13 : Int32) then (some i_this) else (if p1 = (14 : Int32) then (some i_this) else (if p1 = (15 : Int32) then (some (upd i_this 1 ((i_this 1) + ((60 : Int32) * (i_this 4))))) else (if p1 = (16 : Int32) then (some i_this) else (if p1 = (17 : Int32) then (some i_this) else (if p1 = (18 : Int32) then (some (upd i_this 1 ((i_this 1) + (i_this 4)))) else (some i_this)))))))))))))))))
set_option maxHeartbeats 4000000 in
set_option maxRecDepth 100000 in
theorem kX2_keepNumber (l : Launch) (dC : Nat → ClassId) (dI : Nat → Nat → Nat) (cI cJ cB : ClassId) (h_this : Nat) (N : Nat) (p1 : Int32) (i_this : Nat → Int32) (o_i_this : Nat → Int32) (hf : fX2_keepNumber N p1 i_this = some o_i_this) : MV l yX2_keepNumber (kws yX2_keepNumber cX2_keepNumber 2 (none)) (kR 1 25) (dC, dI) (kT cI cJ cB) [.ref h_this, .int p1] [cl_X2 h_this i_this] [cl_X2 h_this o_i_this] := by
  refine MV.of (cc := cX2_keepNumber) (maxL := 2) (by decide) (Nat.le_of_ble_eq_true rfl) (fun p e s m args below meth c A Q ls KC hN hK hP hD hA hl hEnd => ?_)
  obtain ⟨hx, hb, hml, hown, hts⟩ := KC
  have hown : s.vm.findClass "DateSpans$MomentReader" = some m.cls := hown
  have hl : lv_has ls 2 [(0, .ref h_this), (1, .int p1)] := hl
  have hS : va_S A s.heap s.heap [] := va_S.rf
  have h := hf
  unfold fX2_keepNumber at h
  refine lv_iload_n hx hb dX2_keepNumber_0 rfl (lv_at hl 1 rfl) ?_
  by_cases c1 : p1 = (3 : Int32)
  · have h := ite_t c1 h
    refine lv_tableIn (x := p1) (tgt := 80) hx hb dX2_keepNumber_1 (by rw [c1]; decide) (by rw [c1]; decide) (by rw [c1]; rfl) (by decide) ?_
    refine lv_aload_n hx hb dX2_keepNumber_80 rfl (lv_at hl 0 rfl) ?_
    refine lv_aload_n hx hb dX2_keepNumber_81 rfl (lv_at hl 0 rfl) ?_
    refine va_get (D := (dC, dI)) (ci := 1) (v := .int (i_this 4)) (C := RX2) (T := TX2) (N := 5) hx hb hts inX2 hown hK hP 0 rfl rfl 4 (by decide) (hts _ (kq q_103 rfl)) (fun _ h9 => h9) rfl dX2_keepNumber_82 ?_
    refine va_put (D := (dC, dI)) (ci := 1) (v := .int (i_this 4)) (ty := .int) (C := RX2) (T := TX2) (N := 5) hx hb hts inX2 tyX2 tyX2_ok nmX2 hown hK hP hD hS 0 rfl rfl 2 (by decide) (hts _ (kq q_101 rfl)) (fun _ h9 => h9) rfl (by decide +kernel) rfl rfl (Nat.le_of_ble_eq_true rfl) dX2_keepNumber_85 (fun H locs hP hD hS => ?_)
    have hP : va_P (dC, dI) vwCl [(h_this, .inr (1, [.int (i_this 0), .int (i_this 1), .int (i_this 4), .int (i_this 3), .int (i_this 4)]))] H := hP
    have hD : va_D A [(h_this, .inr (1, [.int (i_this 0), .int (i_this 1), .int (i_this 4), .int (i_this 3), .int (i_this 4)]))] := hD
    refine lv_goto (tgt := 174) hx hb dX2_keepNumber_88 (by decide) ?_
    have hP : va_P (dC, dI) vwCl [cl_X2 h_this (upd i_this 2 (i_this 4))] H := hP
    have hD : va_D A [cl_X2 h_this (upd i_this 2 (i_this 4))] := hD
    obtain rfl := pj1 h
    exact hEnd _ _ _ _ hP hS dX2_keepNumber_174
  have h := ite_f c1 h
  by_cases c2 : p1 = (4 : Int32)
  · have h := ite_t c2 h
    refine lv_tableIn (x := p1) (tgt := 174) hx hb dX2_keepNumber_1 (by rw [c2]; decide) (by rw [c2]; decide) (by rw [c2]; rfl) (by decide) ?_
    obtain rfl := pj1 h
    exact hEnd _ _ _ _ hP hS dX2_keepNumber_174
  have h := ite_f c2 h
  by_cases c3 : p1 = (5 : Int32)
  · have h := ite_t c3 h
    refine lv_tableIn (x := p1) (tgt := 174) hx hb dX2_keepNumber_1 (by rw [c3]; decide) (by rw [c3]; decide) (by rw [c3]; rfl) (by decide) ?_
    obtain rfl := pj1 h
    exact hEnd _ _ _ _ hP hS dX2_keepNumber_174
  have h := ite_f c3 h
  by_cases c4 : p1 = (6 : Int32)
  · have h := ite_t c4 h
    refine lv_tableIn (x := p1) (tgt := 91) hx hb dX2_keepNumber_1 (by rw [c4]; decide) (by rw [c4]; decide) (by rw [c4]; rfl) (by decide) ?_
    refine lv_aload_n hx hb dX2_keepNumber_91 rfl (lv_at hl 0 rfl) ?_
    refine lv_aload_n hx hb dX2_keepNumber_92 rfl (lv_at hl 0 rfl) ?_
    refine va_get (D := (dC, dI)) (ci := 1) (v := .int (i_this 4)) (C := RX2) (T := TX2) (N := 5) hx hb hts inX2 hown hK hP 0 rfl rfl 4 (by decide) (hts _ (kq q_103 rfl)) (fun _ h9 => h9) rfl dX2_keepNumber_93 ?_
    refine va_put (D := (dC, dI)) (ci := 1) (v := .int (i_this 4)) (ty := .int) (C := RX2) (T := TX2) (N := 5) hx hb hts inX2 tyX2 tyX2_ok nmX2 hown hK hP hD hS 0 rfl rfl 3 (by decide) (hts _ (kq q_102 rfl)) (fun _ h9 => h9) rfl (by decide +kernel) rfl rfl (Nat.le_of_ble_eq_true rfl) dX2_keepNumber_96 (fun H locs hP hD hS => ?_)
    have hP : va_P (dC, dI) vwCl [(h_this, .inr (1, [.int (i_this 0), .int (i_this 1), .int (i_this 2), .int (i_this 4), .int (i_this 4)]))] H := hP
    have hD : va_D A [(h_this, .inr (1, [.int (i_this 0), .int (i_this 1), .int (i_this 2), .int (i_this 4), .int (i_this 4)]))] := hD
    refine lv_goto (tgt := 174) hx hb dX2_keepNumber_99 (by decide) ?_
    have hP : va_P (dC, dI) vwCl [cl_X2 h_this (upd i_this 3 (i_this 4))] H := hP
    have hD : va_D A [cl_X2 h_this (upd i_this 3 (i_this 4))] := hD
    obtain rfl := pj1 h
    exact hEnd _ _ _ _ hP hS dX2_keepNumber_174
  have h := ite_f c4 h
  by_cases c5 : p1 = (7 : Int32)
  · have h := ite_t c5 h
    refine lv_tableIn (x := p1) (tgt := 174) hx hb dX2_keepNumber_1 (by rw [c5]; decide) (by rw [c5]; decide) (by rw [c5]; rfl) (by decide) ?_
    obtain rfl := pj1 h
    exact hEnd _ _ _ _ hP hS dX2_keepNumber_174
  have h := ite_f c5 h
  by_cases c6 : p1 = (8 : Int32)
  · have h := ite_t c6 h
    refine lv_tableIn (x := p1) (tgt := 174) hx hb dX2_keepNumber_1 (by rw [c6]; decide) (by rw [c6]; decide) (by rw [c6]; rfl) (by decide) ?_
    obtain rfl := pj1 h
    exact hEnd _ _ _ _ hP hS dX2_keepNumber_174
  have h := ite_f c6 h
  by_cases c7 : p1 = (9 : Int32)
  · have h := ite_t c7 h
    refine lv_tableIn (x := p1) (tgt := 102) hx hb dX2_keepNumber_1 (by rw [c7]; decide) (by rw [c7]; decide) (by rw [c7]; rfl) (by decide) ?_
    refine lv_aload_n hx hb dX2_keepNumber_102 rfl (lv_at hl 0 rfl) ?_
    refine lv_aload_n hx hb dX2_keepNumber_103 rfl (lv_at hl 0 rfl) ?_
    refine va_get (D := (dC, dI)) (ci := 1) (v := .int (i_this 2)) (C := RX2) (T := TX2) (N := 5) hx hb hts inX2 hown hK hP 0 rfl rfl 2 (by decide) (hts _ (kq q_101 rfl)) (fun _ h9 => h9) rfl dX2_keepNumber_104 ?_
    refine lv_aload_n hx hb dX2_keepNumber_107 rfl (lv_at hl 0 rfl) ?_
    refine va_get (D := (dC, dI)) (ci := 1) (v := .int (i_this 3)) (C := RX2) (T := TX2) (N := 5) hx hb hts inX2 hown hK hP 0 rfl rfl 3 (by decide) (hts _ (kq q_102 rfl)) (fun _ h9 => h9) rfl dX2_keepNumber_108 ?_
    refine lv_aload_n hx hb dX2_keepNumber_111 rfl (lv_at hl 0 rfl) ?_
    refine va_get (D := (dC, dI)) (ci := 1) (v := .int (i_this 4)) (C := RX2) (T := TX2) (N := 5) hx hb hts inX2 hown hK hP 0 rfl rfl 4 (by decide) (hts _ (kq q_103 rfl)) (fun _ h9 => h9) rfl dX2_keepNumber_112 ?_
    obtain ⟨r8, hc9, h⟩ := bd1_at h
    refine kjSI (kS0 (own := "DateSpans$MomentReader") (As := [.int (i_this 2), .int (i_this 3), .int (i_this 4)]) (rest := [.ref h_this]) ⟨hx, hb, hml, hown, hts⟩ (kX1_dayOf l N (i_this 2) (i_this 3) (i_this 4) r8 hc9) (kgS (kq q_758 rfl) (kq q_318 rfl) (kq q_28 rfl) (kq q_319 rfl)) yd_X1_dayOf ⟨Nat.le_of_ble_eq_true rfl, Nat.le_of_ble_eq_true rfl⟩ rfl rfl hl.1 rfl (lv_room (Nat.le_of_ble_eq_true rfl)) dX2_keepNumber_115) ?_
    refine va_put (D := (dC, dI)) (ci := 1) (v := .int r8) (ty := .int) (C := RX2) (T := TX2) (N := 5) hx hb hts inX2 tyX2 tyX2_ok nmX2 hown hK hP hD hS 0 rfl rfl 0 (by decide) (hts _ (kq q_97 rfl)) (fun _ h9 => h9) rfl (by decide +kernel) rfl rfl (Nat.le_of_ble_eq_true rfl) dX2_keepNumber_118 (fun H locs hP hD hS => ?_)
    have hP : va_P (dC, dI) vwCl [(h_this, .inr (1, [.int r8, .int (i_this 1), .int (i_this 2), .int (i_this 3), .int (i_this 4)]))] H := hP
    have hD : va_D A [(h_this, .inr (1, [.int r8, .int (i_this 1), .int (i_this 2), .int (i_this 3), .int (i_this 4)]))] := hD
    refine lv_goto (tgt := 174) hx hb dX2_keepNumber_121 (by decide) ?_
    have hP : va_P (dC, dI) vwCl [cl_X2 h_this (upd i_this 0 r8)] H := hP
    have hD : va_D A [cl_X2 h_this (upd i_this 0 r8)] := hD
    obtain rfl := pj1 h
    exact hEnd _ _ _ _ hP hS dX2_keepNumber_174
  have h := ite_f c7 h
  by_cases c10 : p1 = (10 : Int32)
  · have h := ite_t c10 h
    refine lv_tableIn (x := p1) (tgt := 174) hx hb dX2_keepNumber_1 (by rw [c10]; decide) (by rw [c10]; decide) (by rw [c10]; rfl) (by decide) ?_
    obtain rfl := pj1 h
    exact hEnd _ _ _ _ hP hS dX2_keepNumber_174
  have h := ite_f c10 h
  by_cases c11 : p1 = (11 : Int32)
  · have h := ite_t c11 h
    refine lv_tableIn (x := p1) (tgt := 174) hx hb dX2_keepNumber_1 (by rw [c11]; decide) (by rw [c11]; decide) (by rw [c11]; rfl) (by decide) ?_
    obtain rfl := pj1 h
    exact hEnd _ _ _ _ hP hS dX2_keepNumber_174
  have h := ite_f c11 h
  by_cases c12 : p1 = (12 : Int32)
  · have h := ite_t c12 h
    refine lv_tableIn (x := p1) (tgt := 124) hx hb dX2_keepNumber_1 (by rw [c12]; decide) (by rw [c12]; decide) (by rw [c12]; rfl) (by decide) ?_
    refine lv_aload_n hx hb dX2_keepNumber_124 rfl (lv_at hl 0 rfl) ?_
    refine lv_sipush (v := (3600 : Int32)) hx hb dX2_keepNumber_125 (by decide) ?_
    refine lv_aload_n hx hb dX2_keepNumber_128 rfl (lv_at hl 0 rfl) ?_
    refine va_get (D := (dC, dI)) (ci := 1) (v := .int (i_this 4)) (C := RX2) (T := TX2) (N := 5) hx hb hts inX2 hown hK hP 0 rfl rfl 4 (by decide) (hts _ (kq q_103 rfl)) (fun _ h9 => h9) rfl dX2_keepNumber_129 ?_
    refine lv_imul hx hb dX2_keepNumber_132 ?_
    refine va_put (D := (dC, dI)) (ci := 1) (v := .int ((3600 : Int32) * (i_this 4))) (ty := .int) (C := RX2) (T := TX2) (N := 5) hx hb hts inX2 tyX2 tyX2_ok nmX2 hown hK hP hD hS 0 rfl rfl 1 (by decide) (hts _ (kq q_99 rfl)) (fun _ h9 => h9) rfl (by decide +kernel) rfl rfl (Nat.le_of_ble_eq_true rfl) dX2_keepNumber_133 (fun H locs hP hD hS => ?_)
    have hP : va_P (dC, dI) vwCl [(h_this, .inr (1, [.int (i_this 0), .int ((3600 : Int32) * (i_this 4)), .int (i_this 2), .int (i_this 3), .int (i_this 4)]))] H := hP
    have hD : va_D A [(h_this, .inr (1, [.int (i_this 0), .int ((3600 : Int32) * (i_this 4)), .int (i_this 2), .int (i_this 3), .int (i_this 4)]))] := hD
    refine lv_goto (tgt := 174) hx hb dX2_keepNumber_136 (by decide) ?_
    have hP : va_P (dC, dI) vwCl [cl_X2 h_this (upd i_this 1 ((3600 : Int32) * (i_this 4)))] H := hP
    have hD : va_D A [cl_X2 h_this (upd i_this 1 ((3600 : Int32) * (i_this 4)))] := hD
    obtain rfl := pj1 h
    exact hEnd _ _ _ _ hP hS dX2_keepNumber_174
  have h := ite_f c12 h
  by_cases c13 : p1 = (13 : Int32)
  · have h := ite_t c13 h
    refine lv_tableIn (x := p1) (tgt := 174) hx hb dX2_keepNumber_1 (by rw [c13]; decide) (by rw [c13]; decide) (by rw [c13]; rfl) (by decide) ?_
    obtain rfl := pj1 h
    exact hEnd _ _ _ _ hP hS dX2_keepNumber_174
  have h := ite_f c13 h
  by_cases c14 : p1 = (14 : Int32)
  · have h := ite_t c14 h
    refine lv_tableIn (x := p1) (tgt := 174) hx hb dX2_keepNumber_1 (by rw [c14]; decide) (by rw [c14]; decide) (by rw [c14]; rfl) (by decide) ?_
    obtain rfl := pj1 h
    exact hEnd _ _ _ _ hP hS dX2_keepNumber_174
  have h := ite_f c14 h
  by_cases c15 : p1 = (15 : Int32)
  · have h := ite_t c15 h
    refine lv_tableIn (x := p1) (tgt := 139) hx hb dX2_keepNumber_1 (by rw [c15]; decide) (by rw [c15]; decide) (by rw [c15]; rfl) (by decide) ?_
    refine lv_aload_n hx hb dX2_keepNumber_139 rfl (lv_at hl 0 rfl) ?_
    refine lv_dup hx hb dX2_keepNumber_140 rfl ?_
    refine va_get (D := (dC, dI)) (ci := 1) (v := .int (i_this 1)) (C := RX2) (T := TX2) (N := 5) hx hb hts inX2 hown hK hP 0 rfl rfl 1 (by decide) (hts _ (kq q_99 rfl)) (fun _ h9 => h9) rfl dX2_keepNumber_141 ?_
    refine lv_bipush (v := (60 : Int32)) hx hb dX2_keepNumber_144 (by decide) ?_
    refine lv_aload_n hx hb dX2_keepNumber_146 rfl (lv_at hl 0 rfl) ?_
    refine va_get (D := (dC, dI)) (ci := 1) (v := .int (i_this 4)) (C := RX2) (T := TX2) (N := 5) hx hb hts inX2 hown hK hP 0 rfl rfl 4 (by decide) (hts _ (kq q_103 rfl)) (fun _ h9 => h9) rfl dX2_keepNumber_147 ?_
    refine lv_imul hx hb dX2_keepNumber_150 ?_
    refine lv_iadd hx hb dX2_keepNumber_151 ?_
    refine va_put (D := (dC, dI)) (ci := 1) (v := .int ((i_this 1) + ((60 : Int32) * (i_this 4)))) (ty := .int) (C := RX2) (T := TX2) (N := 5) hx hb hts inX2 tyX2 tyX2_ok nmX2 hown hK hP hD hS 0 rfl rfl 1 (by decide) (hts _ (kq q_99 rfl)) (fun _ h9 => h9) rfl (by decide +kernel) rfl rfl (Nat.le_of_ble_eq_true rfl) dX2_keepNumber_152 (fun H locs hP hD hS => ?_)
    have hP : va_P (dC, dI) vwCl [(h_this, .inr (1, [.int (i_this 0), .int ((i_this 1) + ((60 : Int32) * (i_this 4))), .int (i_this 2), .int (i_this 3), .int (i_this 4)]))] H := hP
    have hD : va_D A [(h_this, .inr (1, [.int (i_this 0), .int ((i_this 1) + ((60 : Int32) * (i_this 4))), .int (i_this 2), .int (i_this 3), .int (i_this 4)]))] := hD
    refine lv_goto (tgt := 174) hx hb dX2_keepNumber_155 (by decide) ?_
    have hP : va_P (dC, dI) vwCl [cl_X2 h_this (upd i_this 1 ((i_this 1) + ((60 : Int32) * (i_this 4))))] H := hP
    have hD : va_D A [cl_X2 h_this (upd i_this 1 ((i_this 1) + ((60 : Int32) * (i_this 4))))] := hD
    obtain rfl := pj1 h
    exact hEnd _ _ _ _ hP hS dX2_keepNumber_174
  have h := ite_f c15 h
  by_cases c16 : p1 = (16 : Int32)
  · have h := ite_t c16 h
    refine lv_tableIn (x := p1) (tgt := 174) hx hb dX2_keepNumber_1 (by rw [c16]; decide) (by rw [c16]; decide) (by rw [c16]; rfl) (by decide) ?_
    obtain rfl := pj1 h
    exact hEnd _ _ _ _ hP hS dX2_keepNumber_174
  have h := ite_f c16 h
  by_cases c17 : p1 = (17 : Int32)
  · have h := ite_t c17 h
    refine lv_tableIn (x := p1) (tgt := 174) hx hb dX2_keepNumber_1 (by rw [c17]; decide) (by rw [c17]; decide) (by rw [c17]; rfl) (by decide) ?_
    obtain rfl := pj1 h
    exact hEnd _ _ _ _ hP hS dX2_keepNumber_174
  have h := ite_f c17 h
  by_cases c18 : p1 = (18 : Int32)
  · have h := ite_t c18 h
    refine lv_tableIn (x := p1) (tgt := 158) hx hb dX2_keepNumber_1 (by rw [c18]; decide) (by rw [c18]; decide) (by rw [c18]; rfl) (by decide) ?_
    refine lv_aload_n hx hb dX2_keepNumber_158 rfl (lv_at hl 0 rfl) ?_
    refine lv_dup hx hb dX2_keepNumber_159 rfl ?_
    refine va_get (D := (dC, dI)) (ci := 1) (v := .int (i_this 1)) (C := RX2) (T := TX2) (N := 5) hx hb hts inX2 hown hK hP 0 rfl rfl 1 (by decide) (hts _ (kq q_99 rfl)) (fun _ h9 => h9) rfl dX2_keepNumber_160 ?_
    refine lv_aload_n hx hb dX2_keepNumber_163 rfl (lv_at hl 0 rfl) ?_
    refine va_get (D := (dC, dI)) (ci := 1) (v := .int (i_this 4)) (C := RX2) (T := TX2) (N := 5) hx hb hts inX2 hown hK hP 0 rfl rfl 4 (by decide) (hts _ (kq q_103 rfl)) (fun _ h9 => h9) rfl dX2_keepNumber_164 ?_
    refine lv_iadd hx hb dX2_keepNumber_167 ?_
    refine va_put (D := (dC, dI)) (ci := 1) (v := .int ((i_this 1) + (i_this 4))) (ty := .int) (C := RX2) (T := TX2) (N := 5) hx hb hts inX2 tyX2 tyX2_ok nmX2 hown hK hP hD hS 0 rfl rfl 1 (by decide) (hts _ (kq q_99 rfl)) (fun _ h9 => h9) rfl (by decide +kernel) rfl rfl (Nat.le_of_ble_eq_true rfl) dX2_keepNumber_168 (fun H locs hP hD hS => ?_)
    have hP : va_P (dC, dI) vwCl [(h_this, .inr (1, [.int (i_this 0), .int ((i_this 1) + (i_this 4)), .int (i_this 2), .int (i_this 3), .int (i_this 4)]))] H := hP
    have hD : va_D A [(h_this, .inr (1, [.int (i_this 0), .int ((i_this 1) + (i_this 4)), .int (i_this 2), .int (i_this 3), .int (i_this 4)]))] := hD
    refine lv_goto (tgt := 174) hx hb dX2_keepNumber_171 (by decide) ?_
    have hP : va_P (dC, dI) vwCl [cl_X2 h_this (upd i_this 1 ((i_this 1) + (i_this 4)))] H := hP
    have hD : va_D A [cl_X2 h_this (upd i_this 1 ((i_this 1) + (i_this 4)))] := hD
    obtain rfl := pj1 h
    exact hEnd _ _ _ _ hP hS dX2_keepNumber_174
  have h := ite_f c18 h
  have gc1 := kne (k := 3) (by decide) c1
  have gc2 := kne (k := 4) (by decide) c2
  have gc3 := kne (k := 5) (by decide) c3
  have gc4 := kne (k := 6) (by decide) c4
  have gc5 := kne (k := 7) (by decide) c5
  have gc6 := kne (k := 8) (by decide) c6
  have gc7 := kne (k := 9) (by decide) c7
  have gc10 := kne (k := 10) (by decide) c10
  have gc11 := kne (k := 11) (by decide) c11
  have gc12 := kne (k := 12) (by decide) c12
  have gc13 := kne (k := 13) (by decide) c13
  have gc14 := kne (k := 14) (by decide) c14
  have gc15 := kne (k := 15) (by decide) c15
  have gc16 := kne (k := 16) (by decide) c16
  have gc17 := kne (k := 17) (by decide) c17
  have gc18 := kne (k := 18) (by decide) c18
  refine lv_tableOut (x := p1) (tgt := 174) hx hb dX2_keepNumber_1 (by omega) (by decide) ?_
  obtain rfl := pj1 h
  exact hEnd _ _ _ _ hP hS dX2_keepNumber_174
noncomputable def fX2_wrongAt_l12 (N : Nat) (i_a1 : Int32) (f_a1_signs : Nat → Int32) (n : Nat) : Int32 → (Nat → Int32) → Option (Int32 × (Nat → Int32)) := Nat.rec (motive := fun _ => Int32 → (Nat → Int32) → Option (Int32 × (Nat → Int32))) (fun _ _ => none) (fun _ K_12 v2 i_this => (if (19 : Int32) ≤ v2 then (bd1 (fX6_length N i_a1) fun r2 => (if r2 ≤ (19 : Int32) then (some ((-1 : Int32), i_this)) else (some ((19 : Int32), i_this)))) else (bd1 (fX6_length N i_a1) fun r5 => (if v2 = r5 then (if v2 = (10 : Int32) then (some ((-1 : Int32), i_this)) else (some (v2, i_this))) else (bd1 (fX6_at N v2 i_a1 f_a1_signs) fun r8 => (bd2 (fX2_fits N v2 r8 i_this) fun r10 i_this_11 => (if r10 = (0 : Int32) then (some (v2, i_this_11)) else (bd1 (fX2_keepNumber N v2 i_this_11) fun i_this_14 => (nm (v2 + (1 : Int32)) fun z16 => (K_12 z16 i_this_14)))))))))) n
theorem fX2_wrongAt_l12_s (N : Nat) (i_a1 : Int32) (f_a1_signs : Nat → Int32) (n : Nat) (v2 : Int32) (i_this : Nat → Int32) : fX2_wrongAt_l12 N i_a1 f_a1_signs (n + 1) v2 i_this = (if (19 : Int32) ≤ v2 then (bd1 (fX6_length N i_a1) fun r2 => (if r2 ≤ (19 : Int32) then (some ((-1 : Int32), i_this)) else (some ((19 : Int32), i_this)))) else (bd1 (fX6_length N i_a1) fun r5 => (if v2 = r5 then (if v2 = (10 : Int32) then (some ((-1 : Int32), i_this)) else (some (v2, i_this))) else (bd1 (fX6_at N v2 i_a1 f_a1_signs) fun r8 => (bd2 (fX2_fits N v2 r8 i_this) fun r10 i_this_11 => (if r10 = (0 : Int32) then (some (v2, i_this_11)) else (bd1 (fX2_keepNumber N v2 i_this_11) fun i_this_14 => (nm (v2 + (1 : Int32)) fun z16 => ((fX2_wrongAt_l12 N i_a1 f_a1_signs n) z16 i_this_14))))))))) := rfl
theorem fX2_wrongAt_l12_0 (N : Nat) (i_a1 : Int32) (f_a1_signs : Nat → Int32) (v2 : Int32) (i_this : Nat → Int32) : fX2_wrongAt_l12 N i_a1 f_a1_signs 0 v2 i_this = none := rfl
noncomputable def fX2_wrongAt (N : Nat) (i_this : Nat → Int32) (i_a1 : Int32) (f_a1_signs : Nat → Int32) : Option (Int32 × (Nat → Int32)) := (fX2_wrongAt_l12 N i_a1 f_a1_signs N (0 : Int32) (upd (upd i_this 0 (0 : Int32)) 1 (0 : Int32)))
set_option maxHeartbeats 4000000 in
set_option maxRecDepth 100000 in
theorem kX2_wrongAt (l : Launch) (dC : Nat → ClassId) (dI : Nat → Nat → Nat) (cI cJ cB : ClassId) (h_this h_a1 h_a1_signs : Nat) (N : Nat) (i_this : Nat → Int32) (i_a1 : Int32) (f_a1_signs : Nat → Int32) (r : Int32) (o_i_this : Nat → Int32) (hf : fX2_wrongAt N i_this i_a1 f_a1_signs = some (r, o_i_this)) : MI l yX2_wrongAt (kws yX2_wrongAt cX2_wrongAt 3 (some .int)) (kR 5 108) (dC, dI) (kT cI cJ cB) [.ref h_this, .ref h_a1] [cl_X2 h_this i_this, cl_X6 h_a1 h_a1_signs i_a1, (h_a1_signs, .inl (cI, 100, .inl f_a1_signs))] [cl_X2 h_this o_i_this, cl_X6 h_a1 h_a1_signs i_a1, (h_a1_signs, .inl (cI, 100, .inl f_a1_signs))] r := by
  refine MI.of (cc := cX2_wrongAt) (maxL := 3) (by decide) (Nat.le_of_ble_eq_true rfl) (fun p e s m args below meth c A Q ls KC hN hK hP hD hA hl hEnd => ?_)
  obtain ⟨hx, hb, hml, hown, hts⟩ := KC
  have hown : s.vm.findClass "DateSpans$MomentReader" = some m.cls := hown
  have hl : lv_has ls 3 [(0, .ref h_this), (1, .ref h_a1)] := hl
  have hS : va_S A s.heap s.heap [] := va_S.rf
  have LP_12 : ∀ n_12 : Nat, ∀ (v2 : Int32) (i_this : Nat → Int32) (ls : Array Slot) (H : Heap) (locs : List Loc), fX2_wrongAt_l12 N i_a1 f_a1_signs n_12 v2 i_this = some (r, o_i_this) → lv_has ls 3 [(0, .ref h_this), (1, .ref h_a1), (2, .int v2)] → va_P (dC, dI) vwCl [cl_X2 h_this i_this, cl_X6 h_a1 h_a1_signs i_a1, (h_a1_signs, .inl (cI, 100, .inl f_a1_signs))] H → va_D A [cl_X2 h_this i_this, cl_X6 h_a1 h_a1_signs i_a1, (h_a1_signs, .inl (cI, 100, .inl f_a1_signs))] → va_S A s.heap H locs → W p l e (kR 5 108) s m args below meth c H locs 0 0 Q (F0 m 12 ls []) := by
    intro n_12
    induction n_12 with
    | zero =>
      intro v2 i_this ls H locs h hl hP hD hS
      rw [fX2_wrongAt_l12_0] at h; cases h
    | succ n_12 ih_12 =>
      intro v2 i_this ls H locs h hl hP hD hS
      rw [fX2_wrongAt_l12_s] at h
      refine lv_iload_n hx hb dX2_wrongAt_12 rfl (lv_at hl 2 rfl) ?_
      refine lv_bipush (v := (19 : Int32)) hx hb dX2_wrongAt_13 (by decide) ?_
      refine lv_icmp_ge (tgt := 64) hx hb dX2_wrongAt_15 (by decide) (fun c1 => ?_) (fun c1 => ?_)
      · have h := ite_t c1 h
        refine lv_aload_n hx hb dX2_wrongAt_64 rfl (lv_at hl 1 rfl) ?_
        obtain ⟨r2, hc3, h⟩ := bd1_at h
        refine kjI (kV (own := "DateSpans$MomentReader") (C := "DateSpans$Text") (b := h_a1) (As := []) (rest := []) ⟨hx, hb, hml, hown, hts⟩ (kX6_length l dC dI cI cJ cB h_a1 h_a1_signs N i_a1 r2 hc3 _) (kgV (kq q_739 rfl) (kq q_713 rfl) (kq q_714 rfl) (kq q_21 rfl) (kq q_715 rfl)) yd_X6_length ⟨Nat.le_of_ble_eq_true rfl, Nat.le_of_ble_eq_true rfl⟩ hN hK hP hD [1] rfl rfl (ci := 5) rfl rfl rfl rfl rfl hl.1 rfl (lv_room (Nat.le_of_ble_eq_true rfl)) dX2_wrongAt_65) hP hD hS hA [1] rfl rfl (fun H locs hP hD hS => ?_)
        have hP : va_P (dC, dI) vwCl [cl_X2 h_this i_this, cl_X6 h_a1 h_a1_signs i_a1, (h_a1_signs, .inl (cI, 100, .inl f_a1_signs))] H := hP
        have hD : va_D A [cl_X2 h_this i_this, cl_X6 h_a1 h_a1_signs i_a1, (h_a1_signs, .inl (cI, 100, .inl f_a1_signs))] := hD
        refine lv_bipush (v := (19 : Int32)) hx hb dX2_wrongAt_68 (by decide) ?_
        refine lv_icmp_le (tgt := 78) hx hb dX2_wrongAt_70 (by decide) (fun c4 => ?_) (fun c4 => ?_)
        · have h := ite_t c4 h
          refine lv_iconst (v := (-1 : Int32)) hx hb dX2_wrongAt_78 (by decide) ?_
          obtain ⟨rfl, rfl⟩ := pj2 h
          exact hEnd _ _ _ _ hP hS dX2_wrongAt_79 rfl
        have h := ite_f c4 h
        refine lv_bipush (v := (19 : Int32)) hx hb dX2_wrongAt_73 (by decide) ?_
        refine lv_goto (tgt := 79) hx hb dX2_wrongAt_75 (by decide) ?_
        obtain ⟨rfl, rfl⟩ := pj2 h
        exact hEnd _ _ _ _ hP hS dX2_wrongAt_79 rfl
      have h := ite_f c1 h
      refine lv_iload_n hx hb dX2_wrongAt_18 rfl (lv_at hl 2 rfl) ?_
      refine lv_aload_n hx hb dX2_wrongAt_19 rfl (lv_at hl 1 rfl) ?_
      obtain ⟨r5, hc6, h⟩ := bd1_at h
      refine kjI (kV (own := "DateSpans$MomentReader") (C := "DateSpans$Text") (b := h_a1) (As := []) (rest := [.int v2]) ⟨hx, hb, hml, hown, hts⟩ (kX6_length l dC dI cI cJ cB h_a1 h_a1_signs N i_a1 r5 hc6 _) (kgV (kq q_739 rfl) (kq q_713 rfl) (kq q_714 rfl) (kq q_21 rfl) (kq q_715 rfl)) yd_X6_length ⟨Nat.le_of_ble_eq_true rfl, Nat.le_of_ble_eq_true rfl⟩ hN hK hP hD [1] rfl rfl (ci := 5) rfl rfl rfl rfl rfl hl.1 rfl (lv_room (Nat.le_of_ble_eq_true rfl)) dX2_wrongAt_20) hP hD hS hA [1] rfl rfl (fun H locs hP hD hS => ?_)
      have hP : va_P (dC, dI) vwCl [cl_X2 h_this i_this, cl_X6 h_a1 h_a1_signs i_a1, (h_a1_signs, .inl (cI, 100, .inl f_a1_signs))] H := hP
      have hD : va_D A [cl_X2 h_this i_this, cl_X6 h_a1 h_a1_signs i_a1, (h_a1_signs, .inl (cI, 100, .inl f_a1_signs))] := hD
      refine lv_icmp_ne (tgt := 38) hx hb dX2_wrongAt_23 (by decide) (fun c7 => ?_) (fun c7 => ?_)
      · have h := ite_f c7 h
        refine lv_aload_n hx hb dX2_wrongAt_38 rfl (lv_at hl 0 rfl) ?_
        refine lv_iload_n hx hb dX2_wrongAt_39 rfl (lv_at hl 2 rfl) ?_
        refine lv_aload_n hx hb dX2_wrongAt_40 rfl (lv_at hl 1 rfl) ?_
        refine lv_iload_n hx hb dX2_wrongAt_41 rfl (lv_at hl 2 rfl) ?_
        obtain ⟨r8, hc9, h⟩ := bd1_at h
        refine kjI (kV (own := "DateSpans$MomentReader") (C := "DateSpans$Text") (b := h_a1) (As := [.int v2]) (rest := [.int v2, .ref h_this]) ⟨hx, hb, hml, hown, hts⟩ (kX6_at l dC dI cI cJ cB h_a1 h_a1_signs N v2 i_a1 f_a1_signs r8 hc9 _) (kgV (kq q_740 rfl) (kq q_717 rfl) (kq q_718 rfl) (kq q_21 rfl) (kq q_719 rfl)) yd_X6_at ⟨Nat.le_of_ble_eq_true rfl, Nat.le_of_ble_eq_true rfl⟩ hN hK hP hD [1, 2] rfl rfl (ci := 5) rfl rfl rfl rfl rfl hl.1 rfl (lv_room (Nat.le_of_ble_eq_true rfl)) dX2_wrongAt_42) hP hD hS hA [1, 2] rfl rfl (fun H locs hP hD hS => ?_)
        have hP : va_P (dC, dI) vwCl [cl_X2 h_this i_this, cl_X6 h_a1 h_a1_signs i_a1, (h_a1_signs, .inl (cI, 100, .inl f_a1_signs))] H := hP
        have hD : va_D A [cl_X2 h_this i_this, cl_X6 h_a1 h_a1_signs i_a1, (h_a1_signs, .inl (cI, 100, .inl f_a1_signs))] := hD
        obtain ⟨r10, i_this_11, hc12, h⟩ := bd2_at h
        refine kjI (kV (own := "DateSpans$MomentReader") (C := "DateSpans$MomentReader") (b := h_this) (As := [.int v2, .int r8]) (rest := []) ⟨hx, hb, hml, hown, hts⟩ (kX2_fits l dC dI cI cJ cB h_this N v2 r8 i_this r10 i_this_11 hc12 _) (kgV (kq q_741 rfl) (kq q_743 rfl) (kq q_12 rfl) (kq q_22 rfl) (kq q_744 rfl)) yd_X2_fits ⟨Nat.le_of_ble_eq_true rfl, Nat.le_of_ble_eq_true rfl⟩ hN hK hP hD [0] rfl rfl (ci := 1) rfl rfl rfl rfl rfl hl.1 rfl (lv_room (Nat.le_of_ble_eq_true rfl)) dX2_wrongAt_45) hP hD hS hA [0] rfl rfl (fun H locs hP hD hS => ?_)
        have hP : va_P (dC, dI) vwCl [cl_X2 h_this i_this_11, cl_X6 h_a1 h_a1_signs i_a1, (h_a1_signs, .inl (cI, 100, .inl f_a1_signs))] H := hP
        have hD : va_D A [cl_X2 h_this i_this_11, cl_X6 h_a1 h_a1_signs i_a1, (h_a1_signs, .inl (cI, 100, .inl f_a1_signs))] := hD
        refine lv_if_ne (tgt := 53) hx hb dX2_wrongAt_48 (by decide) (fun c13 => ?_) (fun c13 => ?_)
        · have h := ite_f c13 h
          refine lv_aload_n hx hb dX2_wrongAt_53 rfl (lv_at hl 0 rfl) ?_
          refine lv_iload_n hx hb dX2_wrongAt_54 rfl (lv_at hl 2 rfl) ?_
          obtain ⟨i_this_14, hc15, h⟩ := bd1_at h
          refine kjV (kV (own := "DateSpans$MomentReader") (C := "DateSpans$MomentReader") (b := h_this) (As := [.int v2]) (rest := []) ⟨hx, hb, hml, hown, hts⟩ (kX2_keepNumber l dC dI cI cJ cB h_this N v2 i_this_11 i_this_14 hc15 _) (kgV (kq q_754 rfl) (kq q_756 rfl) (kq q_15 rfl) (kq q_22 rfl) (kq q_757 rfl)) yd_X2_keepNumber ⟨Nat.le_of_ble_eq_true rfl, Nat.le_of_ble_eq_true rfl⟩ hN hK hP hD [0] rfl rfl (ci := 1) rfl rfl rfl rfl rfl hl.1 rfl (lv_room (Nat.le_of_ble_eq_true rfl)) dX2_wrongAt_55) hP hD hS hA [0] rfl rfl (fun H locs hP hD hS => ?_)
          have hP : va_P (dC, dI) vwCl [cl_X2 h_this i_this_14, cl_X6 h_a1 h_a1_signs i_a1, (h_a1_signs, .inl (cI, 100, .inl f_a1_signs))] H := hP
          have hD : va_D A [cl_X2 h_this i_this_14, cl_X6 h_a1 h_a1_signs i_a1, (h_a1_signs, .inl (cI, 100, .inl f_a1_signs))] := hD
          obtain ⟨z16, ez16⟩ : ∃ y : Int32, y = (v2 + (1 : Int32)) := ⟨_, rfl⟩
          have h := nm_at ez16 h
          refine lv_iinc (v := z16) (lv' := [(2, .int z16), (0, .ref h_this), (1, .ref h_a1)]) hx hb dX2_wrongAt_58 hl (k := 2) rfl (by rw [ez16]; rfl) (by decide) rfl (fun ls hl => ?_)
          refine lv_goto (tgt := 12) hx hb dX2_wrongAt_61 (by decide) ?_
          exact ih_12 _ _ _ _ _ h (lv_sub hl [1, 2, 0] rfl) hP hD hS
        have h := ite_t c13 h
        refine lv_iload_n hx hb dX2_wrongAt_51 rfl (lv_at hl 2 rfl) ?_
        obtain ⟨rfl, rfl⟩ := pj2 h
        exact hEnd _ _ _ _ hP hS dX2_wrongAt_52 rfl
      have h := ite_t c7 h
      refine lv_iload_n hx hb dX2_wrongAt_26 rfl (lv_at hl 2 rfl) ?_
      refine lv_bipush (v := (10 : Int32)) hx hb dX2_wrongAt_27 (by decide) ?_
      refine lv_icmp_ne (tgt := 36) hx hb dX2_wrongAt_29 (by decide) (fun c17 => ?_) (fun c17 => ?_)
      · have h := ite_f c17 h
        refine lv_iload_n hx hb dX2_wrongAt_36 rfl (lv_at hl 2 rfl) ?_
        obtain ⟨rfl, rfl⟩ := pj2 h
        exact hEnd _ _ _ _ hP hS dX2_wrongAt_37 rfl
      have h := ite_t c17 h
      refine lv_iconst (v := (-1 : Int32)) hx hb dX2_wrongAt_32 (by decide) ?_
      refine lv_goto (tgt := 37) hx hb dX2_wrongAt_33 (by decide) ?_
      obtain ⟨rfl, rfl⟩ := pj2 h
      exact hEnd _ _ _ _ hP hS dX2_wrongAt_37 rfl
  have h := hf
  unfold fX2_wrongAt at h
  refine lv_aload_n hx hb dX2_wrongAt_0 rfl (lv_at hl 0 rfl) ?_
  refine lv_iconst (v := (0 : Int32)) hx hb dX2_wrongAt_1 (by decide) ?_
  refine va_put (D := (dC, dI)) (ci := 1) (v := .int (0 : Int32)) (ty := .int) (C := RX2) (T := TX2) (N := 5) hx hb hts inX2 tyX2 tyX2_ok nmX2 hown hK hP hD hS 0 rfl rfl 0 (by decide) (hts _ (kq q_97 rfl)) (fun _ h9 => h9) rfl (by decide +kernel) rfl rfl (Nat.le_of_ble_eq_true rfl) dX2_wrongAt_2 (fun H locs hP hD hS => ?_)
  have hP : va_P (dC, dI) vwCl [(h_this, .inr (1, [.int (0 : Int32), .int (i_this 1), .int (i_this 2), .int (i_this 3), .int (i_this 4)])), cl_X6 h_a1 h_a1_signs i_a1, (h_a1_signs, .inl (cI, 100, .inl f_a1_signs))] H := hP
  have hD : va_D A [(h_this, .inr (1, [.int (0 : Int32), .int (i_this 1), .int (i_this 2), .int (i_this 3), .int (i_this 4)])), cl_X6 h_a1 h_a1_signs i_a1, (h_a1_signs, .inl (cI, 100, .inl f_a1_signs))] := hD
  refine lv_aload_n hx hb dX2_wrongAt_5 rfl (lv_at hl 0 rfl) ?_
  refine lv_iconst (v := (0 : Int32)) hx hb dX2_wrongAt_6 (by decide) ?_
  refine va_put (D := (dC, dI)) (ci := 1) (v := .int (0 : Int32)) (ty := .int) (C := RX2) (T := TX2) (N := 5) hx hb hts inX2 tyX2 tyX2_ok nmX2 hown hK hP hD hS 0 rfl rfl 1 (by decide) (hts _ (kq q_99 rfl)) (fun _ h9 => h9) rfl (by decide +kernel) rfl rfl (Nat.le_of_ble_eq_true rfl) dX2_wrongAt_7 (fun H locs hP hD hS => ?_)
  have hP : va_P (dC, dI) vwCl [(h_this, .inr (1, [.int (0 : Int32), .int (0 : Int32), .int (i_this 2), .int (i_this 3), .int (i_this 4)])), cl_X6 h_a1 h_a1_signs i_a1, (h_a1_signs, .inl (cI, 100, .inl f_a1_signs))] H := hP
  have hD : va_D A [(h_this, .inr (1, [.int (0 : Int32), .int (0 : Int32), .int (i_this 2), .int (i_this 3), .int (i_this 4)])), cl_X6 h_a1 h_a1_signs i_a1, (h_a1_signs, .inl (cI, 100, .inl f_a1_signs))] := hD
  refine lv_iconst (v := (0 : Int32)) hx hb dX2_wrongAt_10 (by decide) ?_
  refine lv_istore_n (lv' := [(2, .int (0 : Int32)), (0, .ref h_this), (1, .ref h_a1)]) hx hb dX2_wrongAt_11 rfl hl (by decide) rfl (fun ls hl => ?_)
  have hP : va_P (dC, dI) vwCl [cl_X2 h_this (upd (upd i_this 0 (0 : Int32)) 1 (0 : Int32)), cl_X6 h_a1 h_a1_signs i_a1, (h_a1_signs, .inl (cI, 100, .inl f_a1_signs))] H := hP
  have hD : va_D A [cl_X2 h_this (upd (upd i_this 0 (0 : Int32)) 1 (0 : Int32)), cl_X6 h_a1 h_a1_signs i_a1, (h_a1_signs, .inl (cI, 100, .inl f_a1_signs))] := hD
  exact LP_12 N _ _ _ _ _ h (lv_sub hl [1, 2, 0] rfl) hP hD hS
noncomputable def fX9_isSlot (N : Nat) (p1 : Int32) : Option (Int32) := (if p1 < (0 : Int32) then (some (0 : Int32)) else (if (8 : Int32) ≤ p1 then (some (0 : Int32)) else (some (1 : Int32))))
set_option maxHeartbeats 4000000 in
set_option maxRecDepth 100000 in
theorem kX9_isSlot (l : Launch) (N : Nat) (p1 : Int32) (r : Int32) (hf : fX9_isSlot N p1 = some r) : SI l yX9_isSlot (kws yX9_isSlot cX9_isSlot 1 (some .boolean)) (kR 0 0) [.int p1] r := by
  refine SI.of (cc := cX9_isSlot) (maxL := 1) (by decide) (Nat.le_of_ble_eq_true rfl) (fun p e s m args below meth c Q ls KC hl hEnd => ?_)
  obtain ⟨hx, hb, hml, hown, hts⟩ := KC
  have hown : s.vm.findClass "DateSpans" = some m.cls := hown
  have hl : lv_has ls 1 [(0, .int p1)] := hl
  have h := hf
  unfold fX9_isSlot at h
  refine lv_iload_n hx hb dX9_isSlot_0 rfl (lv_at hl 0 rfl) ?_
  refine lv_if_lt (tgt := 14) hx hb dX9_isSlot_1 (by decide) (fun c1 => ?_) (fun c1 => ?_)
  · have h := ite_t c1 h
    refine lv_iconst (v := (0 : Int32)) hx hb dX9_isSlot_14 (by decide) ?_
    obtain rfl := pj1 h
    exact hEnd _ _ dX9_isSlot_15 rfl
  have h := ite_f c1 h
  refine lv_iload_n hx hb dX9_isSlot_4 rfl (lv_at hl 0 rfl) ?_
  refine lv_bipush (v := (8 : Int32)) hx hb dX9_isSlot_5 (by decide) ?_
  refine lv_icmp_ge (tgt := 14) hx hb dX9_isSlot_7 (by decide) (fun c2 => ?_) (fun c2 => ?_)
  · have h := ite_t c2 h
    refine lv_iconst (v := (0 : Int32)) hx hb dX9_isSlot_14 (by decide) ?_
    obtain rfl := pj1 h
    exact hEnd _ _ dX9_isSlot_15 rfl
  have h := ite_f c2 h
  refine lv_iconst (v := (1 : Int32)) hx hb dX9_isSlot_10 (by decide) ?_
  refine lv_goto (tgt := 15) hx hb dX9_isSlot_11 (by decide) ?_
  obtain rfl := pj1 h
  exact hEnd _ _ dX9_isSlot_15 rfl
noncomputable def fX4_putMoment (N : Nat) (p1 : Int32) (p2 : Int32) (p3 : Int32) (f_this_day : Nat → Int32) (f_this_second : Nat → Int32) : Option ((Nat → Int32) × (Nat → Int32)) := (bd1 (fX9_isSlot N p1) fun r1 => (if r1 = (0 : Int32) then (some (f_this_day, f_this_second)) else (gi p1 8 (gi p1 8 (some ((upd f_this_day p1.toNatClampNeg p2), (upd f_this_second p1.toNatClampNeg p3)))))))
set_option maxHeartbeats 4000000 in
set_option maxRecDepth 100000 in
theorem kX4_putMoment (l : Launch) (dC : Nat → ClassId) (dI : Nat → Nat → Nat) (cI cJ cB : ClassId) (h_this h_this_day h_this_second h_this_months h_this_days h_this_seconds : Nat) (N : Nat) (p1 : Int32) (p2 : Int32) (p3 : Int32) (f_this_day : Nat → Int32) (f_this_second : Nat → Int32) (o_f_this_day : Nat → Int32) (o_f_this_second : Nat → Int32) (hf : fX4_putMoment N p1 p2 p3 f_this_day f_this_second = some (o_f_this_day, o_f_this_second)) : MV l yX4_putMoment (kws yX4_putMoment cX4_putMoment 4 (none)) (kR 1 20) (dC, dI) (kT cI cJ cB) [.ref h_this, .int p1, .int p2, .int p3] [cl_X4 h_this h_this_day h_this_second h_this_months h_this_days h_this_seconds, (h_this_day, .inl (cI, 8, .inl f_this_day)), (h_this_second, .inl (cI, 8, .inl f_this_second))] [cl_X4 h_this h_this_day h_this_second h_this_months h_this_days h_this_seconds, (h_this_day, .inl (cI, 8, .inl o_f_this_day)), (h_this_second, .inl (cI, 8, .inl o_f_this_second))] := by
  refine MV.of (cc := cX4_putMoment) (maxL := 4) (by decide) (Nat.le_of_ble_eq_true rfl) (fun p e s m args below meth c A Q ls KC hN hK hP hD hA hl hEnd => ?_)
  obtain ⟨hx, hb, hml, hown, hts⟩ := KC
  have hown : s.vm.findClass "DateSpans$Slots" = some m.cls := hown
  have hl : lv_has ls 4 [(0, .ref h_this), (1, .int p1), (2, .int p2), (3, .int p3)] := hl
  have hS : va_S A s.heap s.heap [] := va_S.rf
  have h := hf
  unfold fX4_putMoment at h
  refine lv_iload_n hx hb dX4_putMoment_0 rfl (lv_at hl 1 rfl) ?_
  obtain ⟨r1, hc2, h⟩ := bd1_at h
  refine kjSI (kSN0 (own := "DateSpans$Slots") (As := [.int p1]) (rest := []) ⟨hx, hb, hml, hown, hts⟩ (kX9_isSlot l N p1 r1 hc2) (kgN (kq q_269 rfl)) (hN _ q_279 rfl) (kq q_268 rfl) (kq q_18 rfl) yd_X9_isSlot ⟨Nat.le_of_ble_eq_true rfl, Nat.le_of_ble_eq_true rfl⟩ rfl rfl hl.1 rfl (lv_room (Nat.le_of_ble_eq_true rfl)) dX4_putMoment_1) ?_
  refine lv_if_eq (tgt := 21) hx hb dX4_putMoment_4 (by decide) (fun c3 => ?_) (fun c3 => ?_)
  · have h := ite_t c3 h
    obtain ⟨rfl, rfl⟩ := pj2 h
    exact hEnd _ _ _ _ hP hS dX4_putMoment_21
  have h := ite_f c3 h
  refine lv_aload_n hx hb dX4_putMoment_7 rfl (lv_at hl 0 rfl) ?_
  refine va_get (D := (dC, dI)) (ci := 3) (v := .ref h_this_day) (C := RX4) (T := TX4) (N := 5) hx hb hts inX4 hown hK hP 0 rfl rfl 0 (by decide) (hts _ (kq q_47 rfl)) (fun _ h9 => h9) rfl dX4_putMoment_8 ?_
  refine lv_iload_n hx hb dX4_putMoment_11 rfl (lv_at hl 1 rfl) ?_
  refine lv_iload_n hx hb dX4_putMoment_12 rfl (lv_at hl 2 rfl) ?_
  obtain ⟨hi4, h⟩ := gi_at h
  refine va_iast hx hb hK hP hD hS 1 0 rfl rfl hi4 dX4_putMoment_13 (fun H locs hP hD hS => ?_)
  have hP : va_P (dC, dI) vwCl [cl_X4 h_this h_this_day h_this_second h_this_months h_this_days h_this_seconds, (h_this_day, .inl (cI, 8, .inl (upd f_this_day p1.toNatClampNeg p2))), (h_this_second, .inl (cI, 8, .inl f_this_second))] H := hP
  have hD : va_D A [cl_X4 h_this h_this_day h_this_second h_this_months h_this_days h_this_seconds, (h_this_day, .inl (cI, 8, .inl (upd f_this_day p1.toNatClampNeg p2))), (h_this_second, .inl (cI, 8, .inl f_this_second))] := hD
  refine lv_aload_n hx hb dX4_putMoment_14 rfl (lv_at hl 0 rfl) ?_
  refine va_get (D := (dC, dI)) (ci := 3) (v := .ref h_this_second) (C := RX4) (T := TX4) (N := 5) hx hb hts inX4 hown hK hP 0 rfl rfl 1 (by decide) (hts _ (kq q_48 rfl)) (fun _ h9 => h9) rfl dX4_putMoment_15 ?_
  refine lv_iload_n hx hb dX4_putMoment_18 rfl (lv_at hl 1 rfl) ?_
  refine lv_iload_n hx hb dX4_putMoment_19 rfl (lv_at hl 3 rfl) ?_
  obtain ⟨hi5, h⟩ := gi_at h
  refine va_iast hx hb hK hP hD hS 2 0 rfl rfl hi5 dX4_putMoment_20 (fun H locs hP hD hS => ?_)
  have hP : va_P (dC, dI) vwCl [cl_X4 h_this h_this_day h_this_second h_this_months h_this_days h_this_seconds, (h_this_day, .inl (cI, 8, .inl (upd f_this_day p1.toNatClampNeg p2))), (h_this_second, .inl (cI, 8, .inl (upd f_this_second p1.toNatClampNeg p3)))] H := hP
  have hD : va_D A [cl_X4 h_this h_this_day h_this_second h_this_months h_this_days h_this_seconds, (h_this_day, .inl (cI, 8, .inl (upd f_this_day p1.toNatClampNeg p2))), (h_this_second, .inl (cI, 8, .inl (upd f_this_second p1.toNatClampNeg p3)))] := hD
  obtain ⟨rfl, rfl⟩ := pj2 h
  exact hEnd _ _ _ _ hP hS dX4_putMoment_21
noncomputable def fX9_moment (N : Nat) (p1 : Int32) (i_this : Int32) (f_this_now_day : Nat → Int32) (f_this_now_second : Nat → Int32) (i_this_text : Int32) (f_this_text_signs : Nat → Int32) (i_this_momentReader : Nat → Int32) : Option (Int32 × (Nat → Int32) × (Nat → Int32) × Int32 × (Nat → Int32)) := (bd2 (fX2_wrongAt N i_this_momentReader i_this_text f_this_text_signs) fun r1 i_this_momentReader_2 => (bd1 (fX6_cut N (0 : Int32) i_this_text) fun i_this_text_4 => (if r1 = (-1 : Int32) then (bd1 (fX9_isSlot N p1) fun r7 => (if r7 = (0 : Int32) then (some ((-1 : Int32), f_this_now_day, f_this_now_second, i_this_text_4, i_this_momentReader_2)) else (bd2 (fX4_putMoment N p1 (i_this_momentReader_2 0) (i_this_momentReader_2 1) f_this_now_day f_this_now_second) fun f_this_now_day_10 f_this_now_second_11 => (some ((i_this_momentReader_2 0), f_this_now_day_10, f_this_now_second_11, i_this_text_4, i_this_momentReader_2))))) else (some (((-21 : Int32) - r1), f_this_now_day, f_this_now_second, i_this_text_4, i_this_momentReader_2)))))
set_option maxHeartbeats 4000000 in
set_option maxRecDepth 100000 in
theorem kX9_moment (l : Launch) (dC : Nat → ClassId) (dI : Nat → Nat → Nat) (cI cJ cB : ClassId) (h_this h_this_now h_this_kept h_this_told h_this_text h_this_script h_this_momentReader h_this_spanReader h_this_adder h_this_other h_this_trial h_this_ways h_this_now_day h_this_now_second h_this_now_months h_this_now_days h_this_now_seconds h_this_text_signs : Nat) (N : Nat) (p1 : Int32) (i_this : Int32) (f_this_now_day : Nat → Int32) (f_this_now_second : Nat → Int32) (i_this_text : Int32) (f_this_text_signs : Nat → Int32) (i_this_momentReader : Nat → Int32) (r : Int32) (o_f_this_now_day : Nat → Int32) (o_f_this_now_second : Nat → Int32) (o_i_this_text : Int32) (o_i_this_momentReader : Nat → Int32) (hf : fX9_moment N p1 i_this f_this_now_day f_this_now_second i_this_text f_this_text_signs i_this_momentReader = some (r, o_f_this_now_day, o_f_this_now_second, o_i_this_text, o_i_this_momentReader)) : MI l yX9_moment (kws yX9_moment cX9_moment 3 (some .int)) (kR 6 130) (dC, dI) (kT cI cJ cB) [.ref h_this, .int p1] [cl_X9 h_this h_this_now h_this_kept h_this_told h_this_text h_this_script h_this_momentReader h_this_spanReader h_this_adder h_this_other h_this_trial h_this_ways i_this, cl_X4 h_this_now h_this_now_day h_this_now_second h_this_now_months h_this_now_days h_this_now_seconds, (h_this_now_day, .inl (cI, 8, .inl f_this_now_day)), (h_this_now_second, .inl (cI, 8, .inl f_this_now_second)), cl_X6 h_this_text h_this_text_signs i_this_text, (h_this_text_signs, .inl (cI, 100, .inl f_this_text_signs)), cl_X2 h_this_momentReader i_this_momentReader] [cl_X9 h_this h_this_now h_this_kept h_this_told h_this_text h_this_script h_this_momentReader h_this_spanReader h_this_adder h_this_other h_this_trial h_this_ways i_this, cl_X4 h_this_now h_this_now_day h_this_now_second h_this_now_months h_this_now_days h_this_now_seconds, (h_this_now_day, .inl (cI, 8, .inl o_f_this_now_day)), (h_this_now_second, .inl (cI, 8, .inl o_f_this_now_second)), cl_X6 h_this_text h_this_text_signs o_i_this_text, (h_this_text_signs, .inl (cI, 100, .inl f_this_text_signs)), cl_X2 h_this_momentReader o_i_this_momentReader] r := by
  refine MI.of (cc := cX9_moment) (maxL := 3) (by decide) (Nat.le_of_ble_eq_true rfl) (fun p e s m args below meth c A Q ls KC hN hK hP hD hA hl hEnd => ?_)
  obtain ⟨hx, hb, hml, hown, hts⟩ := KC
  have hown : s.vm.findClass "DateSpans" = some m.cls := hown
  have hl : lv_has ls 3 [(0, .ref h_this), (1, .int p1)] := hl
  have hS : va_S A s.heap s.heap [] := va_S.rf
  have h := hf
  unfold fX9_moment at h
  refine lv_aload_n hx hb dX9_moment_0 rfl (lv_at hl 0 rfl) ?_
  refine va_get (D := (dC, dI)) (ci := 8) (v := .ref h_this_momentReader) (C := RX9) (T := TX9) (N := 12) hx hb hts inX9 hown hK hP 0 rfl rfl 6 (by decide) (hts _ (kq q_232 rfl)) (fun _ h9 => h9) rfl dX9_moment_1 ?_
  refine lv_aload_n hx hb dX9_moment_4 rfl (lv_at hl 0 rfl) ?_
  refine va_get (D := (dC, dI)) (ci := 8) (v := .ref h_this_text) (C := RX9) (T := TX9) (N := 12) hx hb hts inX9 hown hK hP 0 rfl rfl 4 (by decide) (hts _ (kq q_230 rfl)) (fun _ h9 => h9) rfl dX9_moment_5 ?_
  obtain ⟨r1, i_this_momentReader_2, hc3, h⟩ := bd2_at h
  refine kjI (kV (own := "DateSpans") (C := "DateSpans$MomentReader") (b := h_this_momentReader) (As := [.ref h_this_text]) (rest := []) ⟨hx, hb, hml, hown, hts⟩ (kX2_wrongAt l dC dI cI cJ cB h_this_momentReader h_this_text h_this_text_signs N i_this_momentReader i_this_text f_this_text_signs r1 i_this_momentReader_2 hc3 _) (kgV (kq q_735 rfl) (kq q_736 rfl) (kq q_737 rfl) (kq q_22 rfl) (kq q_738 rfl)) yd_X2_wrongAt ⟨Nat.le_of_ble_eq_true rfl, Nat.le_of_ble_eq_true rfl⟩ hN hK hP hD [6, 4, 5] rfl rfl (ci := 1) rfl rfl rfl rfl rfl hl.1 rfl (lv_room (Nat.le_of_ble_eq_true rfl)) dX9_moment_8) hP hD hS hA [6, 4, 5] rfl rfl (fun H locs hP hD hS => ?_)
  have hP : va_P (dC, dI) vwCl [cl_X9 h_this h_this_now h_this_kept h_this_told h_this_text h_this_script h_this_momentReader h_this_spanReader h_this_adder h_this_other h_this_trial h_this_ways i_this, cl_X4 h_this_now h_this_now_day h_this_now_second h_this_now_months h_this_now_days h_this_now_seconds, (h_this_now_day, .inl (cI, 8, .inl f_this_now_day)), (h_this_now_second, .inl (cI, 8, .inl f_this_now_second)), cl_X6 h_this_text h_this_text_signs i_this_text, (h_this_text_signs, .inl (cI, 100, .inl f_this_text_signs)), cl_X2 h_this_momentReader i_this_momentReader_2] H := hP
  have hD : va_D A [cl_X9 h_this h_this_now h_this_kept h_this_told h_this_text h_this_script h_this_momentReader h_this_spanReader h_this_adder h_this_other h_this_trial h_this_ways i_this, cl_X4 h_this_now h_this_now_day h_this_now_second h_this_now_months h_this_now_days h_this_now_seconds, (h_this_now_day, .inl (cI, 8, .inl f_this_now_day)), (h_this_now_second, .inl (cI, 8, .inl f_this_now_second)), cl_X6 h_this_text h_this_text_signs i_this_text, (h_this_text_signs, .inl (cI, 100, .inl f_this_text_signs)), cl_X2 h_this_momentReader i_this_momentReader_2] := hD
  refine lv_istore_n (lv' := [(2, .int r1), (0, .ref h_this), (1, .int p1)]) hx hb dX9_moment_11 rfl hl (by decide) rfl (fun ls hl => ?_)
  refine lv_aload_n hx hb dX9_moment_12 rfl (lv_at hl 1 rfl) ?_
  refine va_get (D := (dC, dI)) (ci := 8) (v := .ref h_this_text) (C := RX9) (T := TX9) (N := 12) hx hb hts inX9 hown hK hP 0 rfl rfl 4 (by decide) (hts _ (kq q_230 rfl)) (fun _ h9 => h9) rfl dX9_moment_13 ?_
  refine lv_iconst (v := (0 : Int32)) hx hb dX9_moment_16 (by decide) ?_
  obtain ⟨i_this_text_4, hc5, h⟩ := bd1_at h
  refine kjV (kV (own := "DateSpans") (C := "DateSpans$Text") (b := h_this_text) (As := [.int (0 : Int32)]) (rest := []) ⟨hx, hb, hml, hown, hts⟩ (kX6_cut l dC dI cI cJ cB h_this_text h_this_text_signs N (0 : Int32) i_this_text i_this_text_4 hc5 _) (kgV (kq q_698 rfl) (kq q_699 rfl) (kq q_700 rfl) (kq q_21 rfl) (kq q_701 rfl)) yd_X6_cut ⟨Nat.le_of_ble_eq_true rfl, Nat.le_of_ble_eq_true rfl⟩ hN hK hP hD [4] rfl rfl (ci := 5) rfl rfl rfl rfl rfl hl.1 rfl (lv_room (Nat.le_of_ble_eq_true rfl)) dX9_moment_17) hP hD hS hA [4] rfl rfl (fun H locs hP hD hS => ?_)
  have hP : va_P (dC, dI) vwCl [cl_X9 h_this h_this_now h_this_kept h_this_told h_this_text h_this_script h_this_momentReader h_this_spanReader h_this_adder h_this_other h_this_trial h_this_ways i_this, cl_X4 h_this_now h_this_now_day h_this_now_second h_this_now_months h_this_now_days h_this_now_seconds, (h_this_now_day, .inl (cI, 8, .inl f_this_now_day)), (h_this_now_second, .inl (cI, 8, .inl f_this_now_second)), cl_X6 h_this_text h_this_text_signs i_this_text_4, (h_this_text_signs, .inl (cI, 100, .inl f_this_text_signs)), cl_X2 h_this_momentReader i_this_momentReader_2] H := hP
  have hD : va_D A [cl_X9 h_this h_this_now h_this_kept h_this_told h_this_text h_this_script h_this_momentReader h_this_spanReader h_this_adder h_this_other h_this_trial h_this_ways i_this, cl_X4 h_this_now h_this_now_day h_this_now_second h_this_now_months h_this_now_days h_this_now_seconds, (h_this_now_day, .inl (cI, 8, .inl f_this_now_day)), (h_this_now_second, .inl (cI, 8, .inl f_this_now_second)), cl_X6 h_this_text h_this_text_signs i_this_text_4, (h_this_text_signs, .inl (cI, 100, .inl f_this_text_signs)), cl_X2 h_this_momentReader i_this_momentReader_2] := hD
  refine lv_iload_n hx hb dX9_moment_20 rfl (lv_at hl 0 rfl) ?_
  refine lv_iconst (v := (-1 : Int32)) hx hb dX9_moment_21 (by decide) ?_
  refine lv_icmp_eq (tgt := 30) hx hb dX9_moment_22 (by decide) (fun c6 => ?_) (fun c6 => ?_)
  · have h := ite_t c6 h
    refine lv_iload_n hx hb dX9_moment_30 rfl (lv_at hl 2 rfl) ?_
    obtain ⟨r7, hc8, h⟩ := bd1_at h
    refine kjSI (kS0 (own := "DateSpans") (As := [.int p1]) (rest := []) ⟨hx, hb, hml, hown, hts⟩ (kX9_isSlot l N p1 r7 hc8) (kgS (kq q_267 rfl) (kq q_268 rfl) (kq q_18 rfl) (kq q_269 rfl)) yd_X9_isSlot ⟨Nat.le_of_ble_eq_true rfl, Nat.le_of_ble_eq_true rfl⟩ rfl rfl hl.1 rfl (lv_room (Nat.le_of_ble_eq_true rfl)) dX9_moment_31) ?_
    refine lv_if_ne (tgt := 39) hx hb dX9_moment_34 (by decide) (fun c9 => ?_) (fun c9 => ?_)
    · have h := ite_f c9 h
      refine lv_aload_n hx hb dX9_moment_39 rfl (lv_at hl 1 rfl) ?_
      refine va_get (D := (dC, dI)) (ci := 8) (v := .ref h_this_now) (C := RX9) (T := TX9) (N := 12) hx hb hts inX9 hown hK hP 0 rfl rfl 0 (by decide) (hts _ (kq q_226 rfl)) (fun _ h9 => h9) rfl dX9_moment_40 ?_
      refine lv_iload_n hx hb dX9_moment_43 rfl (lv_at hl 2 rfl) ?_
      refine lv_aload_n hx hb dX9_moment_44 rfl (lv_at hl 1 rfl) ?_
      refine va_get (D := (dC, dI)) (ci := 8) (v := .ref h_this_momentReader) (C := RX9) (T := TX9) (N := 12) hx hb hts inX9 hown hK hP 0 rfl rfl 6 (by decide) (hts _ (kq q_232 rfl)) (fun _ h9 => h9) rfl dX9_moment_45 ?_
      refine va_getN (D := (dC, dI)) (ci := 1) (v := .int (i_this_momentReader_2 0)) (C := RX2) (T := TX2) (N := 5) hx hb hts inX2 hown hK hP 6 rfl rfl 0 (by decide) (kN.use hN q_98 rfl) (fun _ h9 => h9) rfl dX9_moment_48 ?_
      refine lv_aload_n hx hb dX9_moment_51 rfl (lv_at hl 1 rfl) ?_
      refine va_get (D := (dC, dI)) (ci := 8) (v := .ref h_this_momentReader) (C := RX9) (T := TX9) (N := 12) hx hb hts inX9 hown hK hP 0 rfl rfl 6 (by decide) (hts _ (kq q_232 rfl)) (fun _ h9 => h9) rfl dX9_moment_52 ?_
      refine va_getN (D := (dC, dI)) (ci := 1) (v := .int (i_this_momentReader_2 1)) (C := RX2) (T := TX2) (N := 5) hx hb hts inX2 hown hK hP 6 rfl rfl 1 (by decide) (kN.use hN q_100 rfl) (fun _ h9 => h9) rfl dX9_moment_55 ?_
      obtain ⟨f_this_now_day_10, f_this_now_second_11, hc12, h⟩ := bd2_at h
      refine kjV (kV (own := "DateSpans") (C := "DateSpans$Slots") (b := h_this_now) (As := [.int p1, .int (i_this_momentReader_2 0), .int (i_this_momentReader_2 1)]) (rest := []) ⟨hx, hb, hml, hown, hts⟩ (kX4_putMoment l dC dI cI cJ cB h_this_now h_this_now_day h_this_now_second h_this_now_months h_this_now_days h_this_now_seconds N p1 (i_this_momentReader_2 0) (i_this_momentReader_2 1) f_this_now_day f_this_now_second f_this_now_day_10 f_this_now_second_11 hc12 _) (kgV (kq q_280 rfl) (kq q_281 rfl) (kq q_282 rfl) (kq q_19 rfl) (kq q_283 rfl)) yd_X4_putMoment ⟨Nat.le_of_ble_eq_true rfl, Nat.le_of_ble_eq_true rfl⟩ hN hK hP hD [1, 2, 3] rfl rfl (ci := 3) rfl rfl rfl rfl rfl hl.1 rfl (lv_room (Nat.le_of_ble_eq_true rfl)) dX9_moment_58) hP hD hS hA [1, 2, 3] rfl rfl (fun H locs hP hD hS => ?_)
      have hP : va_P (dC, dI) vwCl [cl_X9 h_this h_this_now h_this_kept h_this_told h_this_text h_this_script h_this_momentReader h_this_spanReader h_this_adder h_this_other h_this_trial h_this_ways i_this, cl_X4 h_this_now h_this_now_day h_this_now_second h_this_now_months h_this_now_days h_this_now_seconds, (h_this_now_day, .inl (cI, 8, .inl f_this_now_day_10)), (h_this_now_second, .inl (cI, 8, .inl f_this_now_second_11)), cl_X6 h_this_text h_this_text_signs i_this_text_4, (h_this_text_signs, .inl (cI, 100, .inl f_this_text_signs)), cl_X2 h_this_momentReader i_this_momentReader_2] H := hP
      have hD : va_D A [cl_X9 h_this h_this_now h_this_kept h_this_told h_this_text h_this_script h_this_momentReader h_this_spanReader h_this_adder h_this_other h_this_trial h_this_ways i_this, cl_X4 h_this_now h_this_now_day h_this_now_second h_this_now_months h_this_now_days h_this_now_seconds, (h_this_now_day, .inl (cI, 8, .inl f_this_now_day_10)), (h_this_now_second, .inl (cI, 8, .inl f_this_now_second_11)), cl_X6 h_this_text h_this_text_signs i_this_text_4, (h_this_text_signs, .inl (cI, 100, .inl f_this_text_signs)), cl_X2 h_this_momentReader i_this_momentReader_2] := hD
      refine lv_aload_n hx hb dX9_moment_61 rfl (lv_at hl 1 rfl) ?_
      refine va_get (D := (dC, dI)) (ci := 8) (v := .ref h_this_momentReader) (C := RX9) (T := TX9) (N := 12) hx hb hts inX9 hown hK hP 0 rfl rfl 6 (by decide) (hts _ (kq q_232 rfl)) (fun _ h9 => h9) rfl dX9_moment_62 ?_
      refine va_getN (D := (dC, dI)) (ci := 1) (v := .int (i_this_momentReader_2 0)) (C := RX2) (T := TX2) (N := 5) hx hb hts inX2 hown hK hP 6 rfl rfl 0 (by decide) (kN.use hN q_98 rfl) (fun _ h9 => h9) rfl dX9_moment_65 ?_
      obtain ⟨rfl, rfl, rfl, rfl, rfl⟩ := pj5 h
      exact hEnd _ _ _ _ hP hS dX9_moment_68 rfl
    have h := ite_t c9 h
    refine lv_iconst (v := (-1 : Int32)) hx hb dX9_moment_37 (by decide) ?_
    obtain ⟨rfl, rfl, rfl, rfl, rfl⟩ := pj5 h
    exact hEnd _ _ _ _ hP hS dX9_moment_38 rfl
  have h := ite_f c6 h
  refine lv_bipush (v := (-21 : Int32)) hx hb dX9_moment_25 (by decide) ?_
  refine lv_iload_n hx hb dX9_moment_27 rfl (lv_at hl 0 rfl) ?_
  refine lv_isub hx hb dX9_moment_28 ?_
  obtain ⟨rfl, rfl, rfl, rfl, rfl⟩ := pj5 h
  exact hEnd _ _ _ _ hP hS dX9_moment_29 rfl
noncomputable def fX9_isDay (N : Nat) (p1 : Int32) : Option (Int32) := (if p1 < (0 : Int32) then (some (0 : Int32)) else (if (3652058 : Int32) < p1 then (some (0 : Int32)) else (some (1 : Int32))))
set_option maxHeartbeats 4000000 in
set_option maxRecDepth 100000 in
theorem kX9_isDay (l : Launch) (N : Nat) (p1 : Int32) (r : Int32) (hf : fX9_isDay N p1 = some r) : SI l yX9_isDay (kws yX9_isDay cX9_isDay 1 (some .boolean)) (kR 0 0) [.int p1] r := by
  refine SI.of (cc := cX9_isDay) (maxL := 1) (by decide) (Nat.le_of_ble_eq_true rfl) (fun p e s m args below meth c Q ls KC hl hEnd => ?_)
  obtain ⟨hx, hb, hml, hown, hts⟩ := KC
  have hown : s.vm.findClass "DateSpans" = some m.cls := hown
  have hl : lv_has ls 1 [(0, .int p1)] := hl
  have h := hf
  unfold fX9_isDay at h
  refine lv_iload_n hx hb dX9_isDay_0 rfl (lv_at hl 0 rfl) ?_
  refine lv_if_lt (tgt := 15) hx hb dX9_isDay_1 (by decide) (fun c1 => ?_) (fun c1 => ?_)
  · have h := ite_t c1 h
    refine lv_iconst (v := (0 : Int32)) hx hb dX9_isDay_15 (by decide) ?_
    obtain rfl := pj1 h
    exact hEnd _ _ dX9_isDay_16 rfl
  have h := ite_f c1 h
  refine lv_iload_n hx hb dX9_isDay_4 rfl (lv_at hl 0 rfl) ?_
  refine lv_ldcw (v := (3652058 : Int32)) hx hb hown (hts _ (kq q_273 rfl)) dX9_isDay_5 ?_
  refine lv_icmp_gt (tgt := 15) hx hb dX9_isDay_8 (by decide) (fun c2 => ?_) (fun c2 => ?_)
  · have h := ite_t c2 h
    refine lv_iconst (v := (0 : Int32)) hx hb dX9_isDay_15 (by decide) ?_
    obtain rfl := pj1 h
    exact hEnd _ _ dX9_isDay_16 rfl
  have h := ite_f c2 h
  refine lv_iconst (v := (1 : Int32)) hx hb dX9_isDay_11 (by decide) ?_
  refine lv_goto (tgt := 16) hx hb dX9_isDay_12 (by decide) ?_
  obtain rfl := pj1 h
  exact hEnd _ _ dX9_isDay_16 rfl
noncomputable def fX4_dayAt (N : Nat) (p1 : Int32) (f_this_day : Nat → Int32) : Option (Int32) := (bd1 (fX9_isSlot N p1) fun r1 => (if r1 = (0 : Int32) then (some (0 : Int32)) else (gi p1 8 (some (f_this_day p1.toNatClampNeg)))))
set_option maxHeartbeats 4000000 in
set_option maxRecDepth 100000 in
theorem kX4_dayAt (l : Launch) (dC : Nat → ClassId) (dI : Nat → Nat → Nat) (cI cJ cB : ClassId) (h_this h_this_day h_this_second h_this_months h_this_days h_this_seconds : Nat) (N : Nat) (p1 : Int32) (f_this_day : Nat → Int32) (r : Int32) (hf : fX4_dayAt N p1 f_this_day = some r) : MI l yX4_dayAt (kws yX4_dayAt cX4_dayAt 2 (some .int)) (kR 1 20) (dC, dI) (kT cI cJ cB) [.ref h_this, .int p1] [cl_X4 h_this h_this_day h_this_second h_this_months h_this_days h_this_seconds, (h_this_day, .inl (cI, 8, .inl f_this_day))] [cl_X4 h_this h_this_day h_this_second h_this_months h_this_days h_this_seconds, (h_this_day, .inl (cI, 8, .inl f_this_day))] r := by
  refine MI.of (cc := cX4_dayAt) (maxL := 2) (by decide) (Nat.le_of_ble_eq_true rfl) (fun p e s m args below meth c A Q ls KC hN hK hP hD hA hl hEnd => ?_)
  obtain ⟨hx, hb, hml, hown, hts⟩ := KC
  have hown : s.vm.findClass "DateSpans$Slots" = some m.cls := hown
  have hl : lv_has ls 2 [(0, .ref h_this), (1, .int p1)] := hl
  have hS : va_S A s.heap s.heap [] := va_S.rf
  have h := hf
  unfold fX4_dayAt at h
  refine lv_iload_n hx hb dX4_dayAt_0 rfl (lv_at hl 1 rfl) ?_
  obtain ⟨r1, hc2, h⟩ := bd1_at h
  refine kjSI (kSN0 (own := "DateSpans$Slots") (As := [.int p1]) (rest := []) ⟨hx, hb, hml, hown, hts⟩ (kX9_isSlot l N p1 r1 hc2) (kgN (kq q_269 rfl)) (hN _ q_279 rfl) (kq q_268 rfl) (kq q_18 rfl) yd_X9_isSlot ⟨Nat.le_of_ble_eq_true rfl, Nat.le_of_ble_eq_true rfl⟩ rfl rfl hl.1 rfl (lv_room (Nat.le_of_ble_eq_true rfl)) dX4_dayAt_1) ?_
  refine lv_if_eq (tgt := 16) hx hb dX4_dayAt_4 (by decide) (fun c3 => ?_) (fun c3 => ?_)
  · have h := ite_t c3 h
    refine lv_iconst (v := (0 : Int32)) hx hb dX4_dayAt_16 (by decide) ?_
    obtain rfl := pj1 h
    exact hEnd _ _ _ _ hP hS dX4_dayAt_17 rfl
  have h := ite_f c3 h
  refine lv_aload_n hx hb dX4_dayAt_7 rfl (lv_at hl 0 rfl) ?_
  refine va_get (D := (dC, dI)) (ci := 3) (v := .ref h_this_day) (C := RX4) (T := TX4) (N := 5) hx hb hts inX4 hown hK hP 0 rfl rfl 0 (by decide) (hts _ (kq q_47 rfl)) (fun _ h9 => h9) rfl dX4_dayAt_8 ?_
  refine lv_iload_n hx hb dX4_dayAt_11 rfl (lv_at hl 1 rfl) ?_
  obtain ⟨hi4, h⟩ := gi_at h
  refine va_iald hx hb hK hP 1 0 rfl rfl hi4 dX4_dayAt_12 ?_
  refine lv_goto (tgt := 17) hx hb dX4_dayAt_13 (by decide) ?_
  obtain rfl := pj1 h
  exact hEnd _ _ _ _ hP hS dX4_dayAt_17 rfl
noncomputable def fX9_sets (N : Nat) (p1 : Int32) (p2 : Int32) (p3 : Int32) (i_this : Int32) (f_this_now_day : Nat → Int32) (f_this_now_second : Nat → Int32) : Option (Int32 × (Nat → Int32) × (Nat → Int32)) := (bd1 (fX9_isSlot N p1) fun r1 => (if r1 = (0 : Int32) then (some ((-1 : Int32), f_this_now_day, f_this_now_second)) else (bd1 (fX9_isDay N p2) fun r4 => (if r4 = (0 : Int32) then (some ((-1 : Int32), f_this_now_day, f_this_now_second)) else (if p3 < (0 : Int32) then (some ((-1 : Int32), f_this_now_day, f_this_now_second)) else (if p3 < (86400 : Int32) then (bd1 (fX4_dayAt N p1 f_this_now_day) fun r9 => (bd2 (fX4_putMoment N p1 p2 p3 f_this_now_day f_this_now_second) fun f_this_now_day_11 f_this_now_second_12 => (some (r9, f_this_now_day_11, f_this_now_second_12)))) else (some ((-1 : Int32), f_this_now_day, f_this_now_second))))))))
set_option maxHeartbeats 4000000 in
set_option maxRecDepth 100000 in
theorem kX9_sets (l : Launch) (dC : Nat → ClassId) (dI : Nat → Nat → Nat) (cI cJ cB : ClassId) (h_this h_this_now h_this_kept h_this_told h_this_text h_this_script h_this_momentReader h_this_spanReader h_this_adder h_this_other h_this_trial h_this_ways h_this_now_day h_this_now_second h_this_now_months h_this_now_days h_this_now_seconds : Nat) (N : Nat) (p1 : Int32) (p2 : Int32) (p3 : Int32) (i_this : Int32) (f_this_now_day : Nat → Int32) (f_this_now_second : Nat → Int32) (r : Int32) (o_f_this_now_day : Nat → Int32) (o_f_this_now_second : Nat → Int32) (hf : fX9_sets N p1 p2 p3 i_this f_this_now_day f_this_now_second = some (r, o_f_this_now_day, o_f_this_now_second)) : MI l yX9_sets (kws yX9_sets cX9_sets 5 (some .int)) (kR 2 43) (dC, dI) (kT cI cJ cB) [.ref h_this, .int p1, .int p2, .int p3] [cl_X9 h_this h_this_now h_this_kept h_this_told h_this_text h_this_script h_this_momentReader h_this_spanReader h_this_adder h_this_other h_this_trial h_this_ways i_this, cl_X4 h_this_now h_this_now_day h_this_now_second h_this_now_months h_this_now_days h_this_now_seconds, (h_this_now_day, .inl (cI, 8, .inl f_this_now_day)), (h_this_now_second, .inl (cI, 8, .inl f_this_now_second))] [cl_X9 h_this h_this_now h_this_kept h_this_told h_this_text h_this_script h_this_momentReader h_this_spanReader h_this_adder h_this_other h_this_trial h_this_ways i_this, cl_X4 h_this_now h_this_now_day h_this_now_second h_this_now_months h_this_now_days h_this_now_seconds, (h_this_now_day, .inl (cI, 8, .inl o_f_this_now_day)), (h_this_now_second, .inl (cI, 8, .inl o_f_this_now_second))] r := by
  refine MI.of (cc := cX9_sets) (maxL := 5) (by decide) (Nat.le_of_ble_eq_true rfl) (fun p e s m args below meth c A Q ls KC hN hK hP hD hA hl hEnd => ?_)
  obtain ⟨hx, hb, hml, hown, hts⟩ := KC
  have hown : s.vm.findClass "DateSpans" = some m.cls := hown
  have hl : lv_has ls 5 [(0, .ref h_this), (1, .int p1), (2, .int p2), (3, .int p3)] := hl
  have hS : va_S A s.heap s.heap [] := va_S.rf
  have h := hf
  unfold fX9_sets at h
  refine lv_iload_n hx hb dX9_sets_0 rfl (lv_at hl 1 rfl) ?_
  obtain ⟨r1, hc2, h⟩ := bd1_at h
  refine kjSI (kS0 (own := "DateSpans") (As := [.int p1]) (rest := []) ⟨hx, hb, hml, hown, hts⟩ (kX9_isSlot l N p1 r1 hc2) (kgS (kq q_267 rfl) (kq q_268 rfl) (kq q_18 rfl) (kq q_269 rfl)) yd_X9_isSlot ⟨Nat.le_of_ble_eq_true rfl, Nat.le_of_ble_eq_true rfl⟩ rfl rfl hl.1 rfl (lv_room (Nat.le_of_ble_eq_true rfl)) dX9_sets_1) ?_
  refine lv_if_eq (tgt := 24) hx hb dX9_sets_4 (by decide) (fun c3 => ?_) (fun c3 => ?_)
  · have h := ite_t c3 h
    refine lv_iconst (v := (-1 : Int32)) hx hb dX9_sets_24 (by decide) ?_
    obtain ⟨rfl, rfl, rfl⟩ := pj3 h
    exact hEnd _ _ _ _ hP hS dX9_sets_25 rfl
  have h := ite_f c3 h
  refine lv_iload_n hx hb dX9_sets_7 rfl (lv_at hl 2 rfl) ?_
  obtain ⟨r4, hc5, h⟩ := bd1_at h
  refine kjSI (kS0 (own := "DateSpans") (As := [.int p2]) (rest := []) ⟨hx, hb, hml, hown, hts⟩ (kX9_isDay l N p2 r4 hc5) (kgS (kq q_270 rfl) (kq q_271 rfl) (kq q_18 rfl) (kq q_272 rfl)) yd_X9_isDay ⟨Nat.le_of_ble_eq_true rfl, Nat.le_of_ble_eq_true rfl⟩ rfl rfl hl.1 rfl (lv_room (Nat.le_of_ble_eq_true rfl)) dX9_sets_8) ?_
  refine lv_if_eq (tgt := 24) hx hb dX9_sets_11 (by decide) (fun c6 => ?_) (fun c6 => ?_)
  · have h := ite_t c6 h
    refine lv_iconst (v := (-1 : Int32)) hx hb dX9_sets_24 (by decide) ?_
    obtain ⟨rfl, rfl, rfl⟩ := pj3 h
    exact hEnd _ _ _ _ hP hS dX9_sets_25 rfl
  have h := ite_f c6 h
  refine lv_iload_n hx hb dX9_sets_14 rfl (lv_at hl 3 rfl) ?_
  refine lv_if_lt (tgt := 24) hx hb dX9_sets_15 (by decide) (fun c7 => ?_) (fun c7 => ?_)
  · have h := ite_t c7 h
    refine lv_iconst (v := (-1 : Int32)) hx hb dX9_sets_24 (by decide) ?_
    obtain ⟨rfl, rfl, rfl⟩ := pj3 h
    exact hEnd _ _ _ _ hP hS dX9_sets_25 rfl
  have h := ite_f c7 h
  refine lv_iload_n hx hb dX9_sets_18 rfl (lv_at hl 3 rfl) ?_
  refine lv_ldc (v := (86400 : Int32)) hx hb hown (hts _ (kq q_274 rfl)) dX9_sets_19 ?_
  refine lv_icmp_lt (tgt := 26) hx hb dX9_sets_21 (by decide) (fun c8 => ?_) (fun c8 => ?_)
  · have h := ite_t c8 h
    refine lv_aload_n hx hb dX9_sets_26 rfl (lv_at hl 0 rfl) ?_
    refine va_get (D := (dC, dI)) (ci := 8) (v := .ref h_this_now) (C := RX9) (T := TX9) (N := 12) hx hb hts inX9 hown hK hP 0 rfl rfl 0 (by decide) (hts _ (kq q_226 rfl)) (fun _ h9 => h9) rfl dX9_sets_27 ?_
    refine lv_iload_n hx hb dX9_sets_30 rfl (lv_at hl 1 rfl) ?_
    obtain ⟨r9, hc10, h⟩ := bd1_at h
    refine kjI (kV (own := "DateSpans") (C := "DateSpans$Slots") (b := h_this_now) (As := [.int p1]) (rest := []) ⟨hx, hb, hml, hown, hts⟩ (kX4_dayAt l dC dI cI cJ cB h_this_now h_this_now_day h_this_now_second h_this_now_months h_this_now_days h_this_now_seconds N p1 f_this_now_day r9 hc10 _) (kgV (kq q_275 rfl) (kq q_276 rfl) (kq q_277 rfl) (kq q_19 rfl) (kq q_278 rfl)) yd_X4_dayAt ⟨Nat.le_of_ble_eq_true rfl, Nat.le_of_ble_eq_true rfl⟩ hN hK hP hD [1, 2] rfl rfl (ci := 3) rfl rfl rfl rfl rfl hl.1 rfl (lv_room (Nat.le_of_ble_eq_true rfl)) dX9_sets_31) hP hD hS hA [1, 2] rfl rfl (fun H locs hP hD hS => ?_)
    have hP : va_P (dC, dI) vwCl [cl_X9 h_this h_this_now h_this_kept h_this_told h_this_text h_this_script h_this_momentReader h_this_spanReader h_this_adder h_this_other h_this_trial h_this_ways i_this, cl_X4 h_this_now h_this_now_day h_this_now_second h_this_now_months h_this_now_days h_this_now_seconds, (h_this_now_day, .inl (cI, 8, .inl f_this_now_day)), (h_this_now_second, .inl (cI, 8, .inl f_this_now_second))] H := hP
    have hD : va_D A [cl_X9 h_this h_this_now h_this_kept h_this_told h_this_text h_this_script h_this_momentReader h_this_spanReader h_this_adder h_this_other h_this_trial h_this_ways i_this, cl_X4 h_this_now h_this_now_day h_this_now_second h_this_now_months h_this_now_days h_this_now_seconds, (h_this_now_day, .inl (cI, 8, .inl f_this_now_day)), (h_this_now_second, .inl (cI, 8, .inl f_this_now_second))] := hD
    refine lv_istore (lv' := [(4, .int r9), (0, .ref h_this), (1, .int p1), (2, .int p2), (3, .int p3)]) hx hb dX9_sets_34 hl (by decide) rfl (fun ls hl => ?_)
    refine lv_aload_n hx hb dX9_sets_36 rfl (lv_at hl 1 rfl) ?_
    refine va_get (D := (dC, dI)) (ci := 8) (v := .ref h_this_now) (C := RX9) (T := TX9) (N := 12) hx hb hts inX9 hown hK hP 0 rfl rfl 0 (by decide) (hts _ (kq q_226 rfl)) (fun _ h9 => h9) rfl dX9_sets_37 ?_
    refine lv_iload_n hx hb dX9_sets_40 rfl (lv_at hl 2 rfl) ?_
    refine lv_iload_n hx hb dX9_sets_41 rfl (lv_at hl 3 rfl) ?_
    refine lv_iload_n hx hb dX9_sets_42 rfl (lv_at hl 4 rfl) ?_
    obtain ⟨f_this_now_day_11, f_this_now_second_12, hc13, h⟩ := bd2_at h
    refine kjV (kV (own := "DateSpans") (C := "DateSpans$Slots") (b := h_this_now) (As := [.int p1, .int p2, .int p3]) (rest := []) ⟨hx, hb, hml, hown, hts⟩ (kX4_putMoment l dC dI cI cJ cB h_this_now h_this_now_day h_this_now_second h_this_now_months h_this_now_days h_this_now_seconds N p1 p2 p3 f_this_now_day f_this_now_second f_this_now_day_11 f_this_now_second_12 hc13 _) (kgV (kq q_280 rfl) (kq q_281 rfl) (kq q_282 rfl) (kq q_19 rfl) (kq q_283 rfl)) yd_X4_putMoment ⟨Nat.le_of_ble_eq_true rfl, Nat.le_of_ble_eq_true rfl⟩ hN hK hP hD [1, 2, 3] rfl rfl (ci := 3) rfl rfl rfl rfl rfl hl.1 rfl (lv_room (Nat.le_of_ble_eq_true rfl)) dX9_sets_43) hP hD hS hA [1, 2, 3] rfl rfl (fun H locs hP hD hS => ?_)
    have hP : va_P (dC, dI) vwCl [cl_X9 h_this h_this_now h_this_kept h_this_told h_this_text h_this_script h_this_momentReader h_this_spanReader h_this_adder h_this_other h_this_trial h_this_ways i_this, cl_X4 h_this_now h_this_now_day h_this_now_second h_this_now_months h_this_now_days h_this_now_seconds, (h_this_now_day, .inl (cI, 8, .inl f_this_now_day_11)), (h_this_now_second, .inl (cI, 8, .inl f_this_now_second_12))] H := hP
    have hD : va_D A [cl_X9 h_this h_this_now h_this_kept h_this_told h_this_text h_this_script h_this_momentReader h_this_spanReader h_this_adder h_this_other h_this_trial h_this_ways i_this, cl_X4 h_this_now h_this_now_day h_this_now_second h_this_now_months h_this_now_days h_this_now_seconds, (h_this_now_day, .inl (cI, 8, .inl f_this_now_day_11)), (h_this_now_second, .inl (cI, 8, .inl f_this_now_second_12))] := hD
    refine lv_iload hx hb dX9_sets_46 (lv_at hl 0 rfl) ?_
    obtain ⟨rfl, rfl, rfl⟩ := pj3 h
    exact hEnd _ _ _ _ hP hS dX9_sets_48 rfl
  have h := ite_f c8 h
  refine lv_iconst (v := (-1 : Int32)) hx hb dX9_sets_24 (by decide) ?_
  obtain ⟨rfl, rfl, rfl⟩ := pj3 h
  exact hEnd _ _ _ _ hP hS dX9_sets_25 rfl
noncomputable def fX5_unitOf (N : Nat) (p1 : Int32) : Option (Int32) := (if p1 = (100 : Int32) then (some (3 : Int32)) else (if p1 = (101 : Int32) then (some (-1 : Int32)) else (if p1 = (102 : Int32) then (some (-1 : Int32)) else (if p1 = (103 : Int32) then (some (-1 : Int32)) else (if p1 = (104 : Int32) then (some (4 : Int32)) else (if p1 = (105 : Int32) then (some (5 : Int32)) else (if p1 = (106 : Int32) then (some (-1 : Int32)) else (if p1 = (107 : Int32) then (some (-1 : Int32)) else (if p1 = (108 : Int32) then (some (-1 : Int32)) else (if p1 = (109 : Int32) then (some (1 : Int32)) else (if p1 = (110 : Int32) then (some (-1 : Int32)) else (if p1 = (111 : Int32) then (some (-1 : Int32)) else (if p1 = (112 : Int32) then (some (-1 : Int32)) else (if p1 = (113 : Int32) then (some (-1 : Int32)) else (if p1 = (114 : Int32) then (some (-1 : Int32)) else (if p1 = (115 : Int32) then (some (6 : Int32)) else (if p1 = (116 : Int32) then (some (-1 : Int32)) else (if p1 = (117 : Int32) then (some (-1 : Int32)) else (if p1 = (118 : Int32) then (some (-1 : Int32)) else (if p1 = (119 : Int32) then (some (2 : Int32)) else (if p1 = (120 : Int32) then (some (-1 : Int32)) else (if p1 = (121 : Int32) then (some (0 : Int32)) else (some (-1 : Int32))))))))))))))))))))))))
set_option maxHeartbeats 4000000 in
set_option maxRecDepth 100000 in
theorem kX5_unitOf (l : Launch) (N : Nat) (p1 : Int32) (r : Int32) (hf : fX5_unitOf N p1 = some r) : SI l yX5_unitOf (kws yX5_unitOf cX5_unitOf 1 (some .int)) (kR 0 0) [.int p1] r := by
  refine SI.of (cc := cX5_unitOf) (maxL := 1) (by decide) (Nat.le_of_ble_eq_true rfl) (fun p e s m args below meth c Q ls KC hl hEnd => ?_)
  obtain ⟨hx, hb, hml, hown, hts⟩ := KC
  have hown : s.vm.findClass "DateSpans$SpanReader" = some m.cls := hown
  have hl : lv_has ls 1 [(0, .int p1)] := hl
  have h := hf
  unfold fX5_unitOf at h
  refine lv_iload_n hx hb dX5_unitOf_0 rfl (lv_at hl 0 rfl) ?_
  by_cases c1 : p1 = (100 : Int32)
  · have h := ite_t c1 h
    refine lv_tableIn (x := p1) (tgt := 110) hx hb dX5_unitOf_1 (by rw [c1]; decide) (by rw [c1]; decide) (by rw [c1]; rfl) (by decide) ?_
    refine lv_iconst (v := (3 : Int32)) hx hb dX5_unitOf_110 (by decide) ?_
    obtain rfl := pj1 h
    exact hEnd _ _ dX5_unitOf_111 rfl
  have h := ite_f c1 h
  by_cases c2 : p1 = (101 : Int32)
  · have h := ite_t c2 h
    refine lv_tableIn (x := p1) (tgt := 119) hx hb dX5_unitOf_1 (by rw [c2]; decide) (by rw [c2]; decide) (by rw [c2]; rfl) (by decide) ?_
    refine lv_iconst (v := (-1 : Int32)) hx hb dX5_unitOf_119 (by decide) ?_
    obtain rfl := pj1 h
    exact hEnd _ _ dX5_unitOf_120 rfl
  have h := ite_f c2 h
  by_cases c3 : p1 = (102 : Int32)
  · have h := ite_t c3 h
    refine lv_tableIn (x := p1) (tgt := 119) hx hb dX5_unitOf_1 (by rw [c3]; decide) (by rw [c3]; decide) (by rw [c3]; rfl) (by decide) ?_
    refine lv_iconst (v := (-1 : Int32)) hx hb dX5_unitOf_119 (by decide) ?_
    obtain rfl := pj1 h
    exact hEnd _ _ dX5_unitOf_120 rfl
  have h := ite_f c3 h
  by_cases c4 : p1 = (103 : Int32)
  · have h := ite_t c4 h
    refine lv_tableIn (x := p1) (tgt := 119) hx hb dX5_unitOf_1 (by rw [c4]; decide) (by rw [c4]; decide) (by rw [c4]; rfl) (by decide) ?_
    refine lv_iconst (v := (-1 : Int32)) hx hb dX5_unitOf_119 (by decide) ?_
    obtain rfl := pj1 h
    exact hEnd _ _ dX5_unitOf_120 rfl
  have h := ite_f c4 h
  by_cases c5 : p1 = (104 : Int32)
  · have h := ite_t c5 h
    refine lv_tableIn (x := p1) (tgt := 112) hx hb dX5_unitOf_1 (by rw [c5]; decide) (by rw [c5]; decide) (by rw [c5]; rfl) (by decide) ?_
    refine lv_iconst (v := (4 : Int32)) hx hb dX5_unitOf_112 (by decide) ?_
    obtain rfl := pj1 h
    exact hEnd _ _ dX5_unitOf_113 rfl
  have h := ite_f c5 h
  by_cases c6 : p1 = (105 : Int32)
  · have h := ite_t c6 h
    refine lv_tableIn (x := p1) (tgt := 114) hx hb dX5_unitOf_1 (by rw [c6]; decide) (by rw [c6]; decide) (by rw [c6]; rfl) (by decide) ?_
    refine lv_iconst (v := (5 : Int32)) hx hb dX5_unitOf_114 (by decide) ?_
    obtain rfl := pj1 h
    exact hEnd _ _ dX5_unitOf_115 rfl
  have h := ite_f c6 h
  by_cases c7 : p1 = (106 : Int32)
  · have h := ite_t c7 h
    refine lv_tableIn (x := p1) (tgt := 119) hx hb dX5_unitOf_1 (by rw [c7]; decide) (by rw [c7]; decide) (by rw [c7]; rfl) (by decide) ?_
    refine lv_iconst (v := (-1 : Int32)) hx hb dX5_unitOf_119 (by decide) ?_
    obtain rfl := pj1 h
    exact hEnd _ _ dX5_unitOf_120 rfl
  have h := ite_f c7 h
  by_cases c8 : p1 = (107 : Int32)
  · have h := ite_t c8 h
    refine lv_tableIn (x := p1) (tgt := 119) hx hb dX5_unitOf_1 (by rw [c8]; decide) (by rw [c8]; decide) (by rw [c8]; rfl) (by decide) ?_
    refine lv_iconst (v := (-1 : Int32)) hx hb dX5_unitOf_119 (by decide) ?_
    obtain rfl := pj1 h
    exact hEnd _ _ dX5_unitOf_120 rfl
  have h := ite_f c8 h
  by_cases c9 : p1 = (108 : Int32)
  · have h := ite_t c9 h
    refine lv_tableIn (x := p1) (tgt := 119) hx hb dX5_unitOf_1 (by rw [c9]; decide) (by rw [c9]; decide) (by rw [c9]; rfl) (by decide) ?_
    refine lv_iconst (v := (-1 : Int32)) hx hb dX5_unitOf_119 (by decide) ?_
    obtain rfl := pj1 h
    exact hEnd _ _ dX5_unitOf_120 rfl
  have h := ite_f c9 h
  by_cases c10 : p1 = (109 : Int32)
  · have h := ite_t c10 h
    refine lv_tableIn (x := p1) (tgt := 106) hx hb dX5_unitOf_1 (by rw [c10]; decide) (by rw [c10]; decide) (by rw [c10]; rfl) (by decide) ?_
    refine lv_iconst (v := (1 : Int32)) hx hb dX5_unitOf_106 (by decide) ?_
    obtain rfl := pj1 h
    exact hEnd _ _ dX5_unitOf_107 rfl
  have h := ite_f c10 h
  by_cases c11 : p1 = (110 : Int32)
  · have h := ite_t c11 h
    refine lv_tableIn (x := p1) (tgt := 119) hx hb dX5_unitOf_1 (by rw [c11]; decide) (by rw [c11]; decide) (by rw [c11]; rfl) (by decide) ?_
    refine lv_iconst (v := (-1 : Int32)) hx hb dX5_unitOf_119 (by decide) ?_
    obtain rfl := pj1 h
    exact hEnd _ _ dX5_unitOf_120 rfl
  have h := ite_f c11 h
  by_cases c12 : p1 = (111 : Int32)
  · have h := ite_t c12 h
    refine lv_tableIn (x := p1) (tgt := 119) hx hb dX5_unitOf_1 (by rw [c12]; decide) (by rw [c12]; decide) (by rw [c12]; rfl) (by decide) ?_
    refine lv_iconst (v := (-1 : Int32)) hx hb dX5_unitOf_119 (by decide) ?_
    obtain rfl := pj1 h
    exact hEnd _ _ dX5_unitOf_120 rfl
  have h := ite_f c12 h
  by_cases c13 : p1 = (112 : Int32)
  · have h := ite_t c13 h
    refine lv_tableIn (x := p1) (tgt := 119) hx hb dX5_unitOf_1 (by rw [c13]; decide) (by rw [c13]; decide) (by rw [c13]; rfl) (by decide) ?_
    refine lv_iconst (v := (-1 : Int32)) hx hb dX5_unitOf_119 (by decide) ?_
    obtain rfl := pj1 h
    exact hEnd _ _ dX5_unitOf_120 rfl
  have h := ite_f c13 h
  by_cases c14 : p1 = (113 : Int32)
  · have h := ite_t c14 h
    refine lv_tableIn (x := p1) (tgt := 119) hx hb dX5_unitOf_1 (by rw [c14]; decide) (by rw [c14]; decide) (by rw [c14]; rfl) (by decide) ?_
    refine lv_iconst (v := (-1 : Int32)) hx hb dX5_unitOf_119 (by decide) ?_
    obtain rfl := pj1 h
    exact hEnd _ _ dX5_unitOf_120 rfl
  have h := ite_f c14 h
  by_cases c15 : p1 = (114 : Int32)
  · have h := ite_t c15 h
    refine lv_tableIn (x := p1) (tgt := 119) hx hb dX5_unitOf_1 (by rw [c15]; decide) (by rw [c15]; decide) (by rw [c15]; rfl) (by decide) ?_
    refine lv_iconst (v := (-1 : Int32)) hx hb dX5_unitOf_119 (by decide) ?_
    obtain rfl := pj1 h
    exact hEnd _ _ dX5_unitOf_120 rfl
  have h := ite_f c15 h
  by_cases c16 : p1 = (115 : Int32)
  · have h := ite_t c16 h
    refine lv_tableIn (x := p1) (tgt := 116) hx hb dX5_unitOf_1 (by rw [c16]; decide) (by rw [c16]; decide) (by rw [c16]; rfl) (by decide) ?_
    refine lv_bipush (v := (6 : Int32)) hx hb dX5_unitOf_116 (by decide) ?_
    obtain rfl := pj1 h
    exact hEnd _ _ dX5_unitOf_118 rfl
  have h := ite_f c16 h
  by_cases c17 : p1 = (116 : Int32)
  · have h := ite_t c17 h
    refine lv_tableIn (x := p1) (tgt := 119) hx hb dX5_unitOf_1 (by rw [c17]; decide) (by rw [c17]; decide) (by rw [c17]; rfl) (by decide) ?_
    refine lv_iconst (v := (-1 : Int32)) hx hb dX5_unitOf_119 (by decide) ?_
    obtain rfl := pj1 h
    exact hEnd _ _ dX5_unitOf_120 rfl
  have h := ite_f c17 h
  by_cases c18 : p1 = (117 : Int32)
  · have h := ite_t c18 h
    refine lv_tableIn (x := p1) (tgt := 119) hx hb dX5_unitOf_1 (by rw [c18]; decide) (by rw [c18]; decide) (by rw [c18]; rfl) (by decide) ?_
    refine lv_iconst (v := (-1 : Int32)) hx hb dX5_unitOf_119 (by decide) ?_
    obtain rfl := pj1 h
    exact hEnd _ _ dX5_unitOf_120 rfl
  have h := ite_f c18 h
  by_cases c19 : p1 = (118 : Int32)
  · have h := ite_t c19 h
    refine lv_tableIn (x := p1) (tgt := 119) hx hb dX5_unitOf_1 (by rw [c19]; decide) (by rw [c19]; decide) (by rw [c19]; rfl) (by decide) ?_
    refine lv_iconst (v := (-1 : Int32)) hx hb dX5_unitOf_119 (by decide) ?_
    obtain rfl := pj1 h
    exact hEnd _ _ dX5_unitOf_120 rfl
  have h := ite_f c19 h
  by_cases c20 : p1 = (119 : Int32)
  · have h := ite_t c20 h
    refine lv_tableIn (x := p1) (tgt := 108) hx hb dX5_unitOf_1 (by rw [c20]; decide) (by rw [c20]; decide) (by rw [c20]; rfl) (by decide) ?_
    refine lv_iconst (v := (2 : Int32)) hx hb dX5_unitOf_108 (by decide) ?_
    obtain rfl := pj1 h
    exact hEnd _ _ dX5_unitOf_109 rfl
  have h := ite_f c20 h
  by_cases c21 : p1 = (120 : Int32)
  · have h := ite_t c21 h
    refine lv_tableIn (x := p1) (tgt := 119) hx hb dX5_unitOf_1 (by rw [c21]; decide) (by rw [c21]; decide) (by rw [c21]; rfl) (by decide) ?_
    refine lv_iconst (v := (-1 : Int32)) hx hb dX5_unitOf_119 (by decide) ?_
    obtain rfl := pj1 h
    exact hEnd _ _ dX5_unitOf_120 rfl
  have h := ite_f c21 h
  by_cases c22 : p1 = (121 : Int32)
  · have h := ite_t c22 h
    refine lv_tableIn (x := p1) (tgt := 104) hx hb dX5_unitOf_1 (by rw [c22]; decide) (by rw [c22]; decide) (by rw [c22]; rfl) (by decide) ?_
    refine lv_iconst (v := (0 : Int32)) hx hb dX5_unitOf_104 (by decide) ?_
    obtain rfl := pj1 h
    exact hEnd _ _ dX5_unitOf_105 rfl
  have h := ite_f c22 h
  have gc1 := kne (k := 100) (by decide) c1
  have gc2 := kne (k := 101) (by decide) c2
  have gc3 := kne (k := 102) (by decide) c3
  have gc4 := kne (k := 103) (by decide) c4
  have gc5 := kne (k := 104) (by decide) c5
  have gc6 := kne (k := 105) (by decide) c6
  have gc7 := kne (k := 106) (by decide) c7
  have gc8 := kne (k := 107) (by decide) c8
  have gc9 := kne (k := 108) (by decide) c9
  have gc10 := kne (k := 109) (by decide) c10
  have gc11 := kne (k := 110) (by decide) c11
  have gc12 := kne (k := 111) (by decide) c12
  have gc13 := kne (k := 112) (by decide) c13
  have gc14 := kne (k := 113) (by decide) c14
  have gc15 := kne (k := 114) (by decide) c15
  have gc16 := kne (k := 115) (by decide) c16
  have gc17 := kne (k := 116) (by decide) c17
  have gc18 := kne (k := 117) (by decide) c18
  have gc19 := kne (k := 118) (by decide) c19
  have gc20 := kne (k := 119) (by decide) c20
  have gc21 := kne (k := 120) (by decide) c21
  have gc22 := kne (k := 121) (by decide) c22
  refine lv_tableOut (x := p1) (tgt := 119) hx hb dX5_unitOf_1 (by omega) (by decide) ?_
  refine lv_iconst (v := (-1 : Int32)) hx hb dX5_unitOf_119 (by decide) ?_
  obtain rfl := pj1 h
  exact hEnd _ _ dX5_unitOf_120 rfl
noncomputable def fX5_take (N : Nat) (p1 : Int32) (p2 : Int32) (i_this : Nat → Int32) : Option ((Nat → Int32)) := (if p1 = (0 : Int32) then (some (upd i_this 0 ((i_this 0) + ((12 : Int32) * p2)))) else (if p1 = (1 : Int32) then (some (upd i_this 0 ((i_this 0) + p2))) else (if p1 = (2 : Int32) then (some (upd i_this 1 ((i_this 1) + ((7 : Int32) * p2)))) else (if p1 = (3 : Int32) then (some (upd i_this 1 ((i_this 1) + p2))) else (if p1 = (4 : Int32) then (some (upd i_this 2 ((i_this 2) + ((3600 : Int32) * p2)))) else (if p1 = (5 : Int32) then (some (upd i_this 2 ((i_this 2) + ((60 : Int32) * p2)))) else (some (upd i_this 2 ((i_this 2) + p2)))))))))
set_option maxHeartbeats 4000000 in
set_option maxRecDepth 100000 in
theorem kX5_take (l : Launch) (dC : Nat → ClassId) (dI : Nat → Nat → Nat) (cI cJ cB : ClassId) (h_this : Nat) (N : Nat) (p1 : Int32) (p2 : Int32) (i_this : Nat → Int32) (o_i_this : Nat → Int32) (hf : fX5_take N p1 p2 i_this = some o_i_this) : MV l yX5_take (kws yX5_take cX5_take 3 (none)) (kR 0 0) (dC, dI) (kT cI cJ cB) [.ref h_this, .int p1, .int p2] [cl_X5 h_this i_this] [cl_X5 h_this o_i_this] := by
  refine MV.of (cc := cX5_take) (maxL := 3) (by decide) (Nat.le_of_ble_eq_true rfl) (fun p e s m args below meth c A Q ls KC hN hK hP hD hA hl hEnd => ?_)
  obtain ⟨hx, hb, hml, hown, hts⟩ := KC
  have hown : s.vm.findClass "DateSpans$SpanReader" = some m.cls := hown
  have hl : lv_has ls 3 [(0, .ref h_this), (1, .int p1), (2, .int p2)] := hl
  have hS : va_S A s.heap s.heap [] := va_S.rf
  have h := hf
  unfold fX5_take at h
  refine lv_iload_n hx hb dX5_take_0 rfl (lv_at hl 1 rfl) ?_
  by_cases c1 : p1 = (0 : Int32)
  · have h := ite_t c1 h
    refine lv_tableIn (x := p1) (tgt := 40) hx hb dX5_take_1 (by rw [c1]; decide) (by rw [c1]; decide) (by rw [c1]; rfl) (by decide) ?_
    refine lv_aload_n hx hb dX5_take_40 rfl (lv_at hl 0 rfl) ?_
    refine lv_dup hx hb dX5_take_41 rfl ?_
    refine va_get (D := (dC, dI)) (ci := 4) (v := .int (i_this 0)) (C := RX5) (T := TX5) (N := 3) hx hb hts inX5 hown hK hP 0 rfl rfl 0 (by decide) (hts _ (kq q_121 rfl)) (fun _ h9 => h9) rfl dX5_take_42 ?_
    refine lv_bipush (v := (12 : Int32)) hx hb dX5_take_45 (by decide) ?_
    refine lv_iload_n hx hb dX5_take_47 rfl (lv_at hl 2 rfl) ?_
    refine lv_imul hx hb dX5_take_48 ?_
    refine lv_iadd hx hb dX5_take_49 ?_
    refine va_put (D := (dC, dI)) (ci := 4) (v := .int ((i_this 0) + ((12 : Int32) * p2))) (ty := .int) (C := RX5) (T := TX5) (N := 3) hx hb hts inX5 tyX5 tyX5_ok nmX5 hown hK hP hD hS 0 rfl rfl 0 (by decide) (hts _ (kq q_121 rfl)) (fun _ h9 => h9) rfl (by decide +kernel) rfl rfl (Nat.le_of_ble_eq_true rfl) dX5_take_50 (fun H locs hP hD hS => ?_)
    have hP : va_P (dC, dI) vwCl [(h_this, .inr (4, [.int ((i_this 0) + ((12 : Int32) * p2)), .int (i_this 1), .int (i_this 2)]))] H := hP
    have hD : va_D A [(h_this, .inr (4, [.int ((i_this 0) + ((12 : Int32) * p2)), .int (i_this 1), .int (i_this 2)]))] := hD
    refine lv_goto (tgt := 141) hx hb dX5_take_53 (by decide) ?_
    have hP : va_P (dC, dI) vwCl [cl_X5 h_this (upd i_this 0 ((i_this 0) + ((12 : Int32) * p2)))] H := hP
    have hD : va_D A [cl_X5 h_this (upd i_this 0 ((i_this 0) + ((12 : Int32) * p2)))] := hD
    obtain rfl := pj1 h
    exact hEnd _ _ _ _ hP hS dX5_take_141
  have h := ite_f c1 h
  by_cases c2 : p1 = (1 : Int32)
  · have h := ite_t c2 h
    refine lv_tableIn (x := p1) (tgt := 56) hx hb dX5_take_1 (by rw [c2]; decide) (by rw [c2]; decide) (by rw [c2]; rfl) (by decide) ?_
    refine lv_aload_n hx hb dX5_take_56 rfl (lv_at hl 0 rfl) ?_
    refine lv_dup hx hb dX5_take_57 rfl ?_
    refine va_get (D := (dC, dI)) (ci := 4) (v := .int (i_this 0)) (C := RX5) (T := TX5) (N := 3) hx hb hts inX5 hown hK hP 0 rfl rfl 0 (by decide) (hts _ (kq q_121 rfl)) (fun _ h9 => h9) rfl dX5_take_58 ?_
    refine lv_iload_n hx hb dX5_take_61 rfl (lv_at hl 2 rfl) ?_
    refine lv_iadd hx hb dX5_take_62 ?_
    refine va_put (D := (dC, dI)) (ci := 4) (v := .int ((i_this 0) + p2)) (ty := .int) (C := RX5) (T := TX5) (N := 3) hx hb hts inX5 tyX5 tyX5_ok nmX5 hown hK hP hD hS 0 rfl rfl 0 (by decide) (hts _ (kq q_121 rfl)) (fun _ h9 => h9) rfl (by decide +kernel) rfl rfl (Nat.le_of_ble_eq_true rfl) dX5_take_63 (fun H locs hP hD hS => ?_)
    have hP : va_P (dC, dI) vwCl [(h_this, .inr (4, [.int ((i_this 0) + p2), .int (i_this 1), .int (i_this 2)]))] H := hP
    have hD : va_D A [(h_this, .inr (4, [.int ((i_this 0) + p2), .int (i_this 1), .int (i_this 2)]))] := hD
    refine lv_goto (tgt := 141) hx hb dX5_take_66 (by decide) ?_
    have hP : va_P (dC, dI) vwCl [cl_X5 h_this (upd i_this 0 ((i_this 0) + p2))] H := hP
    have hD : va_D A [cl_X5 h_this (upd i_this 0 ((i_this 0) + p2))] := hD
    obtain rfl := pj1 h
    exact hEnd _ _ _ _ hP hS dX5_take_141
  have h := ite_f c2 h
  by_cases c3 : p1 = (2 : Int32)
  · have h := ite_t c3 h
    refine lv_tableIn (x := p1) (tgt := 69) hx hb dX5_take_1 (by rw [c3]; decide) (by rw [c3]; decide) (by rw [c3]; rfl) (by decide) ?_
    refine lv_aload_n hx hb dX5_take_69 rfl (lv_at hl 0 rfl) ?_
    refine lv_dup hx hb dX5_take_70 rfl ?_
    refine va_get (D := (dC, dI)) (ci := 4) (v := .int (i_this 1)) (C := RX5) (T := TX5) (N := 3) hx hb hts inX5 hown hK hP 0 rfl rfl 1 (by decide) (hts _ (kq q_123 rfl)) (fun _ h9 => h9) rfl dX5_take_71 ?_
    refine lv_bipush (v := (7 : Int32)) hx hb dX5_take_74 (by decide) ?_
    refine lv_iload_n hx hb dX5_take_76 rfl (lv_at hl 2 rfl) ?_
    refine lv_imul hx hb dX5_take_77 ?_
    refine lv_iadd hx hb dX5_take_78 ?_
    refine va_put (D := (dC, dI)) (ci := 4) (v := .int ((i_this 1) + ((7 : Int32) * p2))) (ty := .int) (C := RX5) (T := TX5) (N := 3) hx hb hts inX5 tyX5 tyX5_ok nmX5 hown hK hP hD hS 0 rfl rfl 1 (by decide) (hts _ (kq q_123 rfl)) (fun _ h9 => h9) rfl (by decide +kernel) rfl rfl (Nat.le_of_ble_eq_true rfl) dX5_take_79 (fun H locs hP hD hS => ?_)
    have hP : va_P (dC, dI) vwCl [(h_this, .inr (4, [.int (i_this 0), .int ((i_this 1) + ((7 : Int32) * p2)), .int (i_this 2)]))] H := hP
    have hD : va_D A [(h_this, .inr (4, [.int (i_this 0), .int ((i_this 1) + ((7 : Int32) * p2)), .int (i_this 2)]))] := hD
    refine lv_goto (tgt := 141) hx hb dX5_take_82 (by decide) ?_
    have hP : va_P (dC, dI) vwCl [cl_X5 h_this (upd i_this 1 ((i_this 1) + ((7 : Int32) * p2)))] H := hP
    have hD : va_D A [cl_X5 h_this (upd i_this 1 ((i_this 1) + ((7 : Int32) * p2)))] := hD
    obtain rfl := pj1 h
    exact hEnd _ _ _ _ hP hS dX5_take_141
  have h := ite_f c3 h
  by_cases c4 : p1 = (3 : Int32)
  · have h := ite_t c4 h
    refine lv_tableIn (x := p1) (tgt := 85) hx hb dX5_take_1 (by rw [c4]; decide) (by rw [c4]; decide) (by rw [c4]; rfl) (by decide) ?_
    refine lv_aload_n hx hb dX5_take_85 rfl (lv_at hl 0 rfl) ?_
    refine lv_dup hx hb dX5_take_86 rfl ?_
    refine va_get (D := (dC, dI)) (ci := 4) (v := .int (i_this 1)) (C := RX5) (T := TX5) (N := 3) hx hb hts inX5 hown hK hP 0 rfl rfl 1 (by decide) (hts _ (kq q_123 rfl)) (fun _ h9 => h9) rfl dX5_take_87 ?_
    refine lv_iload_n hx hb dX5_take_90 rfl (lv_at hl 2 rfl) ?_
    refine lv_iadd hx hb dX5_take_91 ?_
    refine va_put (D := (dC, dI)) (ci := 4) (v := .int ((i_this 1) + p2)) (ty := .int) (C := RX5) (T := TX5) (N := 3) hx hb hts inX5 tyX5 tyX5_ok nmX5 hown hK hP hD hS 0 rfl rfl 1 (by decide) (hts _ (kq q_123 rfl)) (fun _ h9 => h9) rfl (by decide +kernel) rfl rfl (Nat.le_of_ble_eq_true rfl) dX5_take_92 (fun H locs hP hD hS => ?_)
    have hP : va_P (dC, dI) vwCl [(h_this, .inr (4, [.int (i_this 0), .int ((i_this 1) + p2), .int (i_this 2)]))] H := hP
    have hD : va_D A [(h_this, .inr (4, [.int (i_this 0), .int ((i_this 1) + p2), .int (i_this 2)]))] := hD
    refine lv_goto (tgt := 141) hx hb dX5_take_95 (by decide) ?_
    have hP : va_P (dC, dI) vwCl [cl_X5 h_this (upd i_this 1 ((i_this 1) + p2))] H := hP
    have hD : va_D A [cl_X5 h_this (upd i_this 1 ((i_this 1) + p2))] := hD
    obtain rfl := pj1 h
    exact hEnd _ _ _ _ hP hS dX5_take_141
  have h := ite_f c4 h
  by_cases c5 : p1 = (4 : Int32)
  · have h := ite_t c5 h
    refine lv_tableIn (x := p1) (tgt := 98) hx hb dX5_take_1 (by rw [c5]; decide) (by rw [c5]; decide) (by rw [c5]; rfl) (by decide) ?_
    refine lv_aload_n hx hb dX5_take_98 rfl (lv_at hl 0 rfl) ?_
    refine lv_dup hx hb dX5_take_99 rfl ?_
    refine va_get (D := (dC, dI)) (ci := 4) (v := .int (i_this 2)) (C := RX5) (T := TX5) (N := 3) hx hb hts inX5 hown hK hP 0 rfl rfl 2 (by decide) (hts _ (kq q_125 rfl)) (fun _ h9 => h9) rfl dX5_take_100 ?_
    refine lv_sipush (v := (3600 : Int32)) hx hb dX5_take_103 (by decide) ?_
    refine lv_iload_n hx hb dX5_take_106 rfl (lv_at hl 2 rfl) ?_
    refine lv_imul hx hb dX5_take_107 ?_
    refine lv_iadd hx hb dX5_take_108 ?_
    refine va_put (D := (dC, dI)) (ci := 4) (v := .int ((i_this 2) + ((3600 : Int32) * p2))) (ty := .int) (C := RX5) (T := TX5) (N := 3) hx hb hts inX5 tyX5 tyX5_ok nmX5 hown hK hP hD hS 0 rfl rfl 2 (by decide) (hts _ (kq q_125 rfl)) (fun _ h9 => h9) rfl (by decide +kernel) rfl rfl (Nat.le_of_ble_eq_true rfl) dX5_take_109 (fun H locs hP hD hS => ?_)
    have hP : va_P (dC, dI) vwCl [(h_this, .inr (4, [.int (i_this 0), .int (i_this 1), .int ((i_this 2) + ((3600 : Int32) * p2))]))] H := hP
    have hD : va_D A [(h_this, .inr (4, [.int (i_this 0), .int (i_this 1), .int ((i_this 2) + ((3600 : Int32) * p2))]))] := hD
    refine lv_goto (tgt := 141) hx hb dX5_take_112 (by decide) ?_
    have hP : va_P (dC, dI) vwCl [cl_X5 h_this (upd i_this 2 ((i_this 2) + ((3600 : Int32) * p2)))] H := hP
    have hD : va_D A [cl_X5 h_this (upd i_this 2 ((i_this 2) + ((3600 : Int32) * p2)))] := hD
    obtain rfl := pj1 h
    exact hEnd _ _ _ _ hP hS dX5_take_141
  have h := ite_f c5 h
  by_cases c6 : p1 = (5 : Int32)
  · have h := ite_t c6 h
    refine lv_tableIn (x := p1) (tgt := 115) hx hb dX5_take_1 (by rw [c6]; decide) (by rw [c6]; decide) (by rw [c6]; rfl) (by decide) ?_
    refine lv_aload_n hx hb dX5_take_115 rfl (lv_at hl 0 rfl) ?_
    refine lv_dup hx hb dX5_take_116 rfl ?_
    refine va_get (D := (dC, dI)) (ci := 4) (v := .int (i_this 2)) (C := RX5) (T := TX5) (N := 3) hx hb hts inX5 hown hK hP 0 rfl rfl 2 (by decide) (hts _ (kq q_125 rfl)) (fun _ h9 => h9) rfl dX5_take_117 ?_
    refine lv_bipush (v := (60 : Int32)) hx hb dX5_take_120 (by decide) ?_
    refine lv_iload_n hx hb dX5_take_122 rfl (lv_at hl 2 rfl) ?_
    refine lv_imul hx hb dX5_take_123 ?_
    refine lv_iadd hx hb dX5_take_124 ?_
    refine va_put (D := (dC, dI)) (ci := 4) (v := .int ((i_this 2) + ((60 : Int32) * p2))) (ty := .int) (C := RX5) (T := TX5) (N := 3) hx hb hts inX5 tyX5 tyX5_ok nmX5 hown hK hP hD hS 0 rfl rfl 2 (by decide) (hts _ (kq q_125 rfl)) (fun _ h9 => h9) rfl (by decide +kernel) rfl rfl (Nat.le_of_ble_eq_true rfl) dX5_take_125 (fun H locs hP hD hS => ?_)
    have hP : va_P (dC, dI) vwCl [(h_this, .inr (4, [.int (i_this 0), .int (i_this 1), .int ((i_this 2) + ((60 : Int32) * p2))]))] H := hP
    have hD : va_D A [(h_this, .inr (4, [.int (i_this 0), .int (i_this 1), .int ((i_this 2) + ((60 : Int32) * p2))]))] := hD
    refine lv_goto (tgt := 141) hx hb dX5_take_128 (by decide) ?_
    have hP : va_P (dC, dI) vwCl [cl_X5 h_this (upd i_this 2 ((i_this 2) + ((60 : Int32) * p2)))] H := hP
    have hD : va_D A [cl_X5 h_this (upd i_this 2 ((i_this 2) + ((60 : Int32) * p2)))] := hD
    obtain rfl := pj1 h
    exact hEnd _ _ _ _ hP hS dX5_take_141
  have h := ite_f c6 h
  have gc1 := kne (k := 0) (by decide) c1
  have gc2 := kne (k := 1) (by decide) c2
  have gc3 := kne (k := 2) (by decide) c3
  have gc4 := kne (k := 3) (by decide) c4
  have gc5 := kne (k := 4) (by decide) c5
  have gc6 := kne (k := 5) (by decide) c6
  refine lv_tableOut (x := p1) (tgt := 131) hx hb dX5_take_1 (by omega) (by decide) ?_
  refine lv_aload_n hx hb dX5_take_131 rfl (lv_at hl 0 rfl) ?_
  refine lv_dup hx hb dX5_take_132 rfl ?_
  refine va_get (D := (dC, dI)) (ci := 4) (v := .int (i_this 2)) (C := RX5) (T := TX5) (N := 3) hx hb hts inX5 hown hK hP 0 rfl rfl 2 (by decide) (hts _ (kq q_125 rfl)) (fun _ h9 => h9) rfl dX5_take_133 ?_
  refine lv_iload_n hx hb dX5_take_136 rfl (lv_at hl 2 rfl) ?_
  refine lv_iadd hx hb dX5_take_137 ?_
  refine va_put (D := (dC, dI)) (ci := 4) (v := .int ((i_this 2) + p2)) (ty := .int) (C := RX5) (T := TX5) (N := 3) hx hb hts inX5 tyX5 tyX5_ok nmX5 hown hK hP hD hS 0 rfl rfl 2 (by decide) (hts _ (kq q_125 rfl)) (fun _ h9 => h9) rfl (by decide +kernel) rfl rfl (Nat.le_of_ble_eq_true rfl) dX5_take_138 (fun H locs hP hD hS => ?_)
  have hP : va_P (dC, dI) vwCl [(h_this, .inr (4, [.int (i_this 0), .int (i_this 1), .int ((i_this 2) + p2)]))] H := hP
  have hD : va_D A [(h_this, .inr (4, [.int (i_this 0), .int (i_this 1), .int ((i_this 2) + p2)]))] := hD
  have hP : va_P (dC, dI) vwCl [cl_X5 h_this (upd i_this 2 ((i_this 2) + p2))] H := hP
  have hD : va_D A [cl_X5 h_this (upd i_this 2 ((i_this 2) + p2))] := hD
  obtain rfl := pj1 h
  exact hEnd _ _ _ _ hP hS dX5_take_141
noncomputable def fX5_wrongAt_j164 (N : Nat) (i_a1 : Int32) (f_a1_signs : Nat → Int32) (K_28 : Int32 → Int32 → Int32 → Int32 → Int32 → (Nat → Int32) → Option (Int32 × (Nat → Int32))) (v6 : Int32) (v8 : Int32) (t0 : Int32) (t1 : Int32) (i_this : Nat → Int32) : Option (Int32 × (Nat → Int32)) := (bd1 (fX5_take N t1 t0 i_this) fun i_this_1 => (nm (v6 + (1 : Int32)) fun z3 => (K_28 v8 (0 : Int32) (0 : Int32) (0 : Int32) z3 i_this_1)))
noncomputable def fX5_wrongAt_j103 (N : Nat) (i_a1 : Int32) (f_a1_signs : Nat → Int32) (K_28 : Int32 → Int32 → Int32 → Int32 → Int32 → (Nat → Int32) → Option (Int32 × (Nat → Int32))) (v2 : Int32) (v3 : Int32) (v4 : Int32) (v5 : Int32) (v6 : Int32) (v7 : Int32) (i_this : Nat → Int32) : Option (Int32 × (Nat → Int32)) := (if v7 = (45 : Int32) then (if v5 = (0 : Int32) then (if v4 ≤ (0 : Int32) then (nm (v6 + (1 : Int32)) fun z12 => (K_28 v2 v3 v4 (1 : Int32) z12 i_this)) else (some (v6, i_this))) else (some (v6, i_this))) else (bd1 (fX5_unitOf N v7) fun r5 => (if v4 = (0 : Int32) then (some (v6, i_this)) else (if v2 < r5 then (if v5 = (0 : Int32) then (fX5_wrongAt_j164 N i_a1 f_a1_signs K_28 v6 r5 v3 r5 i_this) else (fX5_wrongAt_j164 N i_a1 f_a1_signs K_28 v6 r5 (-v3) r5 i_this)) else (some (v6, i_this))))))
noncomputable def fX5_wrongAt_l28 (N : Nat) (i_a1 : Int32) (f_a1_signs : Nat → Int32) (n : Nat) : Int32 → Int32 → Int32 → Int32 → Int32 → (Nat → Int32) → Option (Int32 × (Nat → Int32)) := Nat.rec (motive := fun _ => Int32 → Int32 → Int32 → Int32 → Int32 → (Nat → Int32) → Option (Int32 × (Nat → Int32))) (fun _ _ _ _ _ _ => none) (fun _ K_28 v2 v3 v4 v5 v6 i_this => (bd1 (fX6_length N i_a1) fun r13 => (if r13 ≤ v6 then (if v2 = (-1 : Int32) then (bd1 (fX6_length N i_a1) fun r17 => (some (r17, i_this))) else (if v5 = (0 : Int32) then (if v4 ≤ (0 : Int32) then (some ((-1 : Int32), i_this)) else (bd1 (fX6_length N i_a1) fun r23 => (some (r23, i_this)))) else (bd1 (fX6_length N i_a1) fun r20 => (some (r20, i_this))))) else (bd1 (fX6_at N v6 i_a1 f_a1_signs) fun r25 => (if v2 = (6 : Int32) then (some (v6, i_this)) else (if r25 < (48 : Int32) then (fX5_wrongAt_j103 N i_a1 f_a1_signs K_28 v2 v3 v4 v5 v6 r25 i_this) else (if (57 : Int32) < r25 then (fX5_wrongAt_j103 N i_a1 f_a1_signs K_28 v2 v3 v4 v5 v6 r25 i_this) else (if v4 = (5 : Int32) then (some (v6, i_this)) else (if v4 ≤ (0 : Int32) then (nm (((v3 * (10 : Int32)) + r25) - (48 : Int32)) fun z32 => (nm (v4 + (1 : Int32)) fun z33 => (nm (v6 + (1 : Int32)) fun z34 => (K_28 v2 z32 z33 v5 z34 i_this)))) else (if v3 = (0 : Int32) then (some (v6, i_this)) else (nm (((v3 * (10 : Int32)) + r25) - (48 : Int32)) fun z36 => (nm (v4 + (1 : Int32)) fun z37 => (nm (v6 + (1 : Int32)) fun z38 => (K_28 v2 z36 z37 v5 z38 i_this)))))))))))))) n
theorem fX5_wrongAt_l28_s (N : Nat) (i_a1 : Int32) (f_a1_signs : Nat → Int32) (n : Nat) (v2 : Int32) (v3 : Int32) (v4 : Int32) (v5 : Int32) (v6 : Int32) (i_this : Nat → Int32) : fX5_wrongAt_l28 N i_a1 f_a1_signs (n + 1) v2 v3 v4 v5 v6 i_this = (bd1 (fX6_length N i_a1) fun r13 => (if r13 ≤ v6 then (if v2 = (-1 : Int32) then (bd1 (fX6_length N i_a1) fun r17 => (some (r17, i_this))) else (if v5 = (0 : Int32) then (if v4 ≤ (0 : Int32) then (some ((-1 : Int32), i_this)) else (bd1 (fX6_length N i_a1) fun r23 => (some (r23, i_this)))) else (bd1 (fX6_length N i_a1) fun r20 => (some (r20, i_this))))) else (bd1 (fX6_at N v6 i_a1 f_a1_signs) fun r25 => (if v2 = (6 : Int32) then (some (v6, i_this)) else (if r25 < (48 : Int32) then (fX5_wrongAt_j103 N i_a1 f_a1_signs (fX5_wrongAt_l28 N i_a1 f_a1_signs n) v2 v3 v4 v5 v6 r25 i_this) else (if (57 : Int32) < r25 then (fX5_wrongAt_j103 N i_a1 f_a1_signs (fX5_wrongAt_l28 N i_a1 f_a1_signs n) v2 v3 v4 v5 v6 r25 i_this) else (if v4 = (5 : Int32) then (some (v6, i_this)) else (if v4 ≤ (0 : Int32) then (nm (((v3 * (10 : Int32)) + r25) - (48 : Int32)) fun z32 => (nm (v4 + (1 : Int32)) fun z33 => (nm (v6 + (1 : Int32)) fun z34 => ((fX5_wrongAt_l28 N i_a1 f_a1_signs n) v2 z32 z33 v5 z34 i_this)))) else (if v3 = (0 : Int32) then (some (v6, i_this)) else (nm (((v3 * (10 : Int32)) + r25) - (48 : Int32)) fun z36 => (nm (v4 + (1 : Int32)) fun z37 => (nm (v6 + (1 : Int32)) fun z38 => ((fX5_wrongAt_l28 N i_a1 f_a1_signs n) v2 z36 z37 v5 z38 i_this))))))))))))) := rfl
theorem fX5_wrongAt_l28_0 (N : Nat) (i_a1 : Int32) (f_a1_signs : Nat → Int32) (v2 : Int32) (v3 : Int32) (v4 : Int32) (v5 : Int32) (v6 : Int32) (i_this : Nat → Int32) : fX5_wrongAt_l28 N i_a1 f_a1_signs 0 v2 v3 v4 v5 v6 i_this = none := rfl
noncomputable def fX5_wrongAt (N : Nat) (i_this : Nat → Int32) (i_a1 : Int32) (f_a1_signs : Nat → Int32) : Option (Int32 × (Nat → Int32)) := (fX5_wrongAt_l28 N i_a1 f_a1_signs N (-1 : Int32) (0 : Int32) (0 : Int32) (0 : Int32) (0 : Int32) (upd (upd (upd i_this 0 (0 : Int32)) 1 (0 : Int32)) 2 (0 : Int32)))
set_option maxHeartbeats 4000000 in
set_option maxRecDepth 100000 in
theorem kX5_wrongAt (l : Launch) (dC : Nat → ClassId) (dI : Nat → Nat → Nat) (cI cJ cB : ClassId) (h_this h_a1 h_a1_signs : Nat) (N : Nat) (i_this : Nat → Int32) (i_a1 : Int32) (f_a1_signs : Nat → Int32) (r : Int32) (o_i_this : Nat → Int32) (hf : fX5_wrongAt N i_this i_a1 f_a1_signs = some (r, o_i_this)) : MI l yX5_wrongAt (kws yX5_wrongAt cX5_wrongAt 9 (some .int)) (kR 1 22) (dC, dI) (kT cI cJ cB) [.ref h_this, .ref h_a1] [cl_X5 h_this i_this, cl_X6 h_a1 h_a1_signs i_a1, (h_a1_signs, .inl (cI, 100, .inl f_a1_signs))] [cl_X5 h_this o_i_this, cl_X6 h_a1 h_a1_signs i_a1, (h_a1_signs, .inl (cI, 100, .inl f_a1_signs))] r := by
  refine MI.of (cc := cX5_wrongAt) (maxL := 9) (by decide) (Nat.le_of_ble_eq_true rfl) (fun p e s m args below meth c A Q ls KC hN hK hP hD hA hl hEnd => ?_)
  obtain ⟨hx, hb, hml, hown, hts⟩ := KC
  have hown : s.vm.findClass "DateSpans$SpanReader" = some m.cls := hown
  have hl : lv_has ls 9 [(0, .ref h_this), (1, .ref h_a1)] := hl
  have hS : va_S A s.heap s.heap [] := va_S.rf
  have LP_28 : ∀ n_28 : Nat, ∀ (v2 : Int32) (v3 : Int32) (v4 : Int32) (v5 : Int32) (v6 : Int32) (i_this : Nat → Int32) (ls : Array Slot) (H : Heap) (locs : List Loc), fX5_wrongAt_l28 N i_a1 f_a1_signs n_28 v2 v3 v4 v5 v6 i_this = some (r, o_i_this) → lv_has ls 9 [(0, .ref h_this), (1, .ref h_a1), (2, .int v2), (3, .int v3), (4, .int v4), (5, .int v5), (6, .int v6)] → va_P (dC, dI) vwCl [cl_X5 h_this i_this, cl_X6 h_a1 h_a1_signs i_a1, (h_a1_signs, .inl (cI, 100, .inl f_a1_signs))] H → va_D A [cl_X5 h_this i_this, cl_X6 h_a1 h_a1_signs i_a1, (h_a1_signs, .inl (cI, 100, .inl f_a1_signs))] → va_S A s.heap H locs → W p l e (kR 1 22) s m args below meth c H locs 0 0 Q (F0 m 28 ls []) := by
    intro n_28
    induction n_28 with
    | zero =>
      intro v2 v3 v4 v5 v6 i_this ls H locs h hl hP hD hS
      rw [fX5_wrongAt_l28_0] at h; cases h
    | succ n_28 ih_28 =>
      have JN_164 : ∀ (v6 : Int32) (v8 : Int32) (t0 : Int32) (t1 : Int32) (i_this : Nat → Int32) (ls : Array Slot) (H : Heap) (locs : List Loc), (fX5_wrongAt_j164 N i_a1 f_a1_signs (fX5_wrongAt_l28 N i_a1 f_a1_signs n_28)) v6 v8 t0 t1 i_this = some (r, o_i_this) → lv_has ls 9 [(0, .ref h_this), (1, .ref h_a1), (6, .int v6), (8, .int v8)] → va_P (dC, dI) vwCl [cl_X5 h_this i_this, cl_X6 h_a1 h_a1_signs i_a1, (h_a1_signs, .inl (cI, 100, .inl f_a1_signs))] H → va_D A [cl_X5 h_this i_this, cl_X6 h_a1 h_a1_signs i_a1, (h_a1_signs, .inl (cI, 100, .inl f_a1_signs))] → va_S A s.heap H locs → W p l e (kR 1 22) s m args below meth c H locs 0 0 Q (F0 m 164 ls [.int t0, .int t1, .ref h_this]) := by
        intro v6 v8 t0 t1 i_this ls H locs h hl hP hD hS
        unfold fX5_wrongAt_j164 at h
        obtain ⟨i_this_1, hc2, h⟩ := bd1_at h
        refine kjV (kV (own := "DateSpans$SpanReader") (C := "DateSpans$SpanReader") (b := h_this) (As := [.int t1, .int t0]) (rest := []) ⟨hx, hb, hml, hown, hts⟩ (kX5_take l dC dI cI cJ cB h_this N t1 t0 i_this i_this_1 hc2 _) (kgV (kq q_797 rfl) (kq q_799 rfl) (kq q_16 rfl) (kq q_23 rfl) (kq q_800 rfl)) yd_X5_take ⟨Nat.le_of_ble_eq_true rfl, Nat.le_of_ble_eq_true rfl⟩ hN hK hP hD [0] rfl rfl (ci := 4) rfl rfl rfl rfl rfl hl.1 rfl (lv_room (Nat.le_of_ble_eq_true rfl)) dX5_wrongAt_164) hP hD hS hA [0] rfl rfl (fun H locs hP hD hS => ?_)
        have hP : va_P (dC, dI) vwCl [cl_X5 h_this i_this_1, cl_X6 h_a1 h_a1_signs i_a1, (h_a1_signs, .inl (cI, 100, .inl f_a1_signs))] H := hP
        have hD : va_D A [cl_X5 h_this i_this_1, cl_X6 h_a1 h_a1_signs i_a1, (h_a1_signs, .inl (cI, 100, .inl f_a1_signs))] := hD
        refine lv_iload hx hb dX5_wrongAt_167 (lv_at hl 3 rfl) ?_
        refine lv_istore_n (lv' := [(2, .int v8), (0, .ref h_this), (1, .ref h_a1), (6, .int v6), (8, .int v8)]) hx hb dX5_wrongAt_169 rfl hl (by decide) rfl (fun ls hl => ?_)
        refine lv_iconst (v := (0 : Int32)) hx hb dX5_wrongAt_170 (by decide) ?_
        refine lv_istore_n (lv' := [(3, .int (0 : Int32)), (2, .int v8), (0, .ref h_this), (1, .ref h_a1), (6, .int v6), (8, .int v8)]) hx hb dX5_wrongAt_171 rfl hl (by decide) rfl (fun ls hl => ?_)
        refine lv_iconst (v := (0 : Int32)) hx hb dX5_wrongAt_172 (by decide) ?_
        refine lv_istore (lv' := [(4, .int (0 : Int32)), (3, .int (0 : Int32)), (2, .int v8), (0, .ref h_this), (1, .ref h_a1), (6, .int v6), (8, .int v8)]) hx hb dX5_wrongAt_173 hl (by decide) rfl (fun ls hl => ?_)
        refine lv_iconst (v := (0 : Int32)) hx hb dX5_wrongAt_175 (by decide) ?_
        refine lv_istore (lv' := [(5, .int (0 : Int32)), (4, .int (0 : Int32)), (3, .int (0 : Int32)), (2, .int v8), (0, .ref h_this), (1, .ref h_a1), (6, .int v6), (8, .int v8)]) hx hb dX5_wrongAt_176 hl (by decide) rfl (fun ls hl => ?_)
        obtain ⟨z3, ez3⟩ : ∃ y : Int32, y = (v6 + (1 : Int32)) := ⟨_, rfl⟩
        have h := nm_at ez3 h
        refine lv_iinc (v := z3) (lv' := [(6, .int z3), (5, .int (0 : Int32)), (4, .int (0 : Int32)), (3, .int (0 : Int32)), (2, .int v8), (0, .ref h_this), (1, .ref h_a1), (8, .int v8)]) hx hb dX5_wrongAt_178 hl (k := 6) rfl (by rw [ez3]; rfl) (by decide) rfl (fun ls hl => ?_)
        refine lv_goto (tgt := 28) hx hb dX5_wrongAt_181 (by decide) ?_
        exact ih_28 _ _ _ _ _ _ _ _ _ h (lv_sub hl [5, 6, 4, 3, 2, 1, 0] rfl) hP hD hS
      have JN_103 : ∀ (v2 : Int32) (v3 : Int32) (v4 : Int32) (v5 : Int32) (v6 : Int32) (v7 : Int32) (i_this : Nat → Int32) (ls : Array Slot) (H : Heap) (locs : List Loc), (fX5_wrongAt_j103 N i_a1 f_a1_signs (fX5_wrongAt_l28 N i_a1 f_a1_signs n_28)) v2 v3 v4 v5 v6 v7 i_this = some (r, o_i_this) → lv_has ls 9 [(0, .ref h_this), (1, .ref h_a1), (2, .int v2), (3, .int v3), (4, .int v4), (5, .int v5), (6, .int v6), (7, .int v7)] → va_P (dC, dI) vwCl [cl_X5 h_this i_this, cl_X6 h_a1 h_a1_signs i_a1, (h_a1_signs, .inl (cI, 100, .inl f_a1_signs))] H → va_D A [cl_X5 h_this i_this, cl_X6 h_a1 h_a1_signs i_a1, (h_a1_signs, .inl (cI, 100, .inl f_a1_signs))] → va_S A s.heap H locs → W p l e (kR 1 22) s m args below meth c H locs 0 0 Q (F0 m 103 ls []) := by
        intro v2 v3 v4 v5 v6 v7 i_this ls H locs h hl hP hD hS
        unfold fX5_wrongAt_j103 at h
        refine lv_iload hx hb dX5_wrongAt_103 (lv_at hl 7 rfl) ?_
        refine lv_bipush (v := (45 : Int32)) hx hb dX5_wrongAt_105 (by decide) ?_
        refine lv_icmp_ne (tgt := 129) hx hb dX5_wrongAt_107 (by decide) (fun c4 => ?_) (fun c4 => ?_)
        · have h := ite_f c4 h
          refine lv_iload hx hb dX5_wrongAt_129 (lv_at hl 7 rfl) ?_
          obtain ⟨r5, hc6, h⟩ := bd1_at h
          refine kjSI (kS0 (own := "DateSpans$SpanReader") (As := [.int v7]) (rest := []) ⟨hx, hb, hml, hown, hts⟩ (kX5_unitOf l N v7 r5 hc6) (kgS (kq q_794 rfl) (kq q_795 rfl) (kq q_23 rfl) (kq q_796 rfl)) yd_X5_unitOf ⟨Nat.le_of_ble_eq_true rfl, Nat.le_of_ble_eq_true rfl⟩ rfl rfl hl.1 rfl (lv_room (Nat.le_of_ble_eq_true rfl)) dX5_wrongAt_131) ?_
          refine lv_istore (lv' := [(8, .int r5), (0, .ref h_this), (1, .ref h_a1), (2, .int v2), (3, .int v3), (4, .int v4), (5, .int v5), (6, .int v6), (7, .int v7)]) hx hb dX5_wrongAt_134 hl (by decide) rfl (fun ls hl => ?_)
          refine lv_iload hx hb dX5_wrongAt_136 (lv_at hl 5 rfl) ?_
          refine lv_if_eq (tgt := 147) hx hb dX5_wrongAt_138 (by decide) (fun c7 => ?_) (fun c7 => ?_)
          · have h := ite_t c7 h
            refine lv_iload hx hb dX5_wrongAt_147 (lv_at hl 7 rfl) ?_
            obtain ⟨rfl, rfl⟩ := pj2 h
            exact hEnd _ _ _ _ hP hS dX5_wrongAt_149 rfl
          have h := ite_f c7 h
          refine lv_iload hx hb dX5_wrongAt_141 (lv_at hl 0 rfl) ?_
          refine lv_iload_n hx hb dX5_wrongAt_143 rfl (lv_at hl 3 rfl) ?_
          refine lv_icmp_gt (tgt := 150) hx hb dX5_wrongAt_144 (by decide) (fun c8 => ?_) (fun c8 => ?_)
          · have h := ite_t c8 h
            refine lv_aload_n hx hb dX5_wrongAt_150 rfl (lv_at hl 1 rfl) ?_
            refine lv_iload hx hb dX5_wrongAt_151 (lv_at hl 0 rfl) ?_
            refine lv_iload hx hb dX5_wrongAt_153 (lv_at hl 6 rfl) ?_
            refine lv_if_eq (tgt := 163) hx hb dX5_wrongAt_155 (by decide) (fun c9 => ?_) (fun c9 => ?_)
            · have h := ite_t c9 h
              refine lv_iload_n hx hb dX5_wrongAt_163 rfl (lv_at hl 4 rfl) ?_
              exact JN_164 _ _ _ _ _ _ _ _ h (lv_sub hl [1, 2, 7, 0] rfl) hP hD hS
            have h := ite_f c9 h
            refine lv_iload_n hx hb dX5_wrongAt_158 rfl (lv_at hl 4 rfl) ?_
            refine lv_ineg hx hb dX5_wrongAt_159 ?_
            refine lv_goto (tgt := 164) hx hb dX5_wrongAt_160 (by decide) ?_
            exact JN_164 _ _ _ _ _ _ _ _ h (lv_sub hl [1, 2, 7, 0] rfl) hP hD hS
          have h := ite_f c8 h
          refine lv_iload hx hb dX5_wrongAt_147 (lv_at hl 7 rfl) ?_
          obtain ⟨rfl, rfl⟩ := pj2 h
          exact hEnd _ _ _ _ hP hS dX5_wrongAt_149 rfl
        have h := ite_t c4 h
        refine lv_iload hx hb dX5_wrongAt_110 (lv_at hl 5 rfl) ?_
        refine lv_if_ne (tgt := 120) hx hb dX5_wrongAt_112 (by decide) (fun c10 => ?_) (fun c10 => ?_)
        · have h := ite_f c10 h
          refine lv_iload hx hb dX5_wrongAt_120 (lv_at hl 6 rfl) ?_
          obtain ⟨rfl, rfl⟩ := pj2 h
          exact hEnd _ _ _ _ hP hS dX5_wrongAt_122 rfl
        have h := ite_t c10 h
        refine lv_iload hx hb dX5_wrongAt_115 (lv_at hl 4 rfl) ?_
        refine lv_if_le (tgt := 123) hx hb dX5_wrongAt_117 (by decide) (fun c11 => ?_) (fun c11 => ?_)
        · have h := ite_t c11 h
          refine lv_iconst (v := (1 : Int32)) hx hb dX5_wrongAt_123 (by decide) ?_
          refine lv_istore (lv' := [(5, .int (1 : Int32)), (0, .ref h_this), (1, .ref h_a1), (2, .int v2), (3, .int v3), (4, .int v4), (6, .int v6), (7, .int v7)]) hx hb dX5_wrongAt_124 hl (by decide) rfl (fun ls hl => ?_)
          refine lv_goto (tgt := 178) hx hb dX5_wrongAt_126 (by decide) ?_
          obtain ⟨z12, ez12⟩ : ∃ y : Int32, y = (v6 + (1 : Int32)) := ⟨_, rfl⟩
          have h := nm_at ez12 h
          refine lv_iinc (v := z12) (lv' := [(6, .int z12), (5, .int (1 : Int32)), (0, .ref h_this), (1, .ref h_a1), (2, .int v2), (3, .int v3), (4, .int v4), (7, .int v7)]) hx hb dX5_wrongAt_178 hl (k := 6) rfl (by rw [ez12]; rfl) (by decide) rfl (fun ls hl => ?_)
          refine lv_goto (tgt := 28) hx hb dX5_wrongAt_181 (by decide) ?_
          exact ih_28 _ _ _ _ _ _ _ _ _ h (lv_sub hl [2, 3, 4, 5, 6, 1, 0] rfl) hP hD hS
        have h := ite_f c11 h
        refine lv_iload hx hb dX5_wrongAt_120 (lv_at hl 6 rfl) ?_
        obtain ⟨rfl, rfl⟩ := pj2 h
        exact hEnd _ _ _ _ hP hS dX5_wrongAt_122 rfl
      intro v2 v3 v4 v5 v6 i_this ls H locs h hl hP hD hS
      rw [fX5_wrongAt_l28_s] at h
      refine lv_iload hx hb dX5_wrongAt_28 (lv_at hl 6 rfl) ?_
      refine lv_aload_n hx hb dX5_wrongAt_30 rfl (lv_at hl 1 rfl) ?_
      obtain ⟨r13, hc14, h⟩ := bd1_at h
      refine kjI (kV (own := "DateSpans$SpanReader") (C := "DateSpans$Text") (b := h_a1) (As := []) (rest := [.int v6]) ⟨hx, hb, hml, hown, hts⟩ (kX6_length l dC dI cI cJ cB h_a1 h_a1_signs N i_a1 r13 hc14 _) (kgV (kq q_792 rfl) (kq q_713 rfl) (kq q_714 rfl) (kq q_21 rfl) (kq q_715 rfl)) yd_X6_length ⟨Nat.le_of_ble_eq_true rfl, Nat.le_of_ble_eq_true rfl⟩ hN hK hP hD [1] rfl rfl (ci := 5) rfl rfl rfl rfl rfl hl.1 rfl (lv_room (Nat.le_of_ble_eq_true rfl)) dX5_wrongAt_31) hP hD hS hA [1] rfl rfl (fun H locs hP hD hS => ?_)
      have hP : va_P (dC, dI) vwCl [cl_X5 h_this i_this, cl_X6 h_a1 h_a1_signs i_a1, (h_a1_signs, .inl (cI, 100, .inl f_a1_signs))] H := hP
      have hD : va_D A [cl_X5 h_this i_this, cl_X6 h_a1 h_a1_signs i_a1, (h_a1_signs, .inl (cI, 100, .inl f_a1_signs))] := hD
      refine lv_icmp_ge (tgt := 184) hx hb dX5_wrongAt_34 (by decide) (fun c15 => ?_) (fun c15 => ?_)
      · have h := ite_t c15 h
        refine lv_iload_n hx hb dX5_wrongAt_184 rfl (lv_at hl 2 rfl) ?_
        refine lv_iconst (v := (-1 : Int32)) hx hb dX5_wrongAt_185 (by decide) ?_
        refine lv_icmp_eq (tgt := 199) hx hb dX5_wrongAt_186 (by decide) (fun c16 => ?_) (fun c16 => ?_)
        · have h := ite_t c16 h
          refine lv_aload_n hx hb dX5_wrongAt_199 rfl (lv_at hl 1 rfl) ?_
          obtain ⟨r17, hc18, h⟩ := bd1_at h
          refine kjI (kV (own := "DateSpans$SpanReader") (C := "DateSpans$Text") (b := h_a1) (As := []) (rest := []) ⟨hx, hb, hml, hown, hts⟩ (kX6_length l dC dI cI cJ cB h_a1 h_a1_signs N i_a1 r17 hc18 _) (kgV (kq q_792 rfl) (kq q_713 rfl) (kq q_714 rfl) (kq q_21 rfl) (kq q_715 rfl)) yd_X6_length ⟨Nat.le_of_ble_eq_true rfl, Nat.le_of_ble_eq_true rfl⟩ hN hK hP hD [1] rfl rfl (ci := 5) rfl rfl rfl rfl rfl hl.1 rfl (lv_room (Nat.le_of_ble_eq_true rfl)) dX5_wrongAt_200) hP hD hS hA [1] rfl rfl (fun H locs hP hD hS => ?_)
          have hP : va_P (dC, dI) vwCl [cl_X5 h_this i_this, cl_X6 h_a1 h_a1_signs i_a1, (h_a1_signs, .inl (cI, 100, .inl f_a1_signs))] H := hP
          have hD : va_D A [cl_X5 h_this i_this, cl_X6 h_a1 h_a1_signs i_a1, (h_a1_signs, .inl (cI, 100, .inl f_a1_signs))] := hD
          refine lv_goto (tgt := 207) hx hb dX5_wrongAt_203 (by decide) ?_
          obtain ⟨rfl, rfl⟩ := pj2 h
          exact hEnd _ _ _ _ hP hS dX5_wrongAt_207 rfl
        have h := ite_f c16 h
        refine lv_iload hx hb dX5_wrongAt_189 (lv_at hl 5 rfl) ?_
        refine lv_if_ne (tgt := 199) hx hb dX5_wrongAt_191 (by decide) (fun c19 => ?_) (fun c19 => ?_)
        · have h := ite_f c19 h
          refine lv_aload_n hx hb dX5_wrongAt_199 rfl (lv_at hl 1 rfl) ?_
          obtain ⟨r20, hc21, h⟩ := bd1_at h
          refine kjI (kV (own := "DateSpans$SpanReader") (C := "DateSpans$Text") (b := h_a1) (As := []) (rest := []) ⟨hx, hb, hml, hown, hts⟩ (kX6_length l dC dI cI cJ cB h_a1 h_a1_signs N i_a1 r20 hc21 _) (kgV (kq q_792 rfl) (kq q_713 rfl) (kq q_714 rfl) (kq q_21 rfl) (kq q_715 rfl)) yd_X6_length ⟨Nat.le_of_ble_eq_true rfl, Nat.le_of_ble_eq_true rfl⟩ hN hK hP hD [1] rfl rfl (ci := 5) rfl rfl rfl rfl rfl hl.1 rfl (lv_room (Nat.le_of_ble_eq_true rfl)) dX5_wrongAt_200) hP hD hS hA [1] rfl rfl (fun H locs hP hD hS => ?_)
          have hP : va_P (dC, dI) vwCl [cl_X5 h_this i_this, cl_X6 h_a1 h_a1_signs i_a1, (h_a1_signs, .inl (cI, 100, .inl f_a1_signs))] H := hP
          have hD : va_D A [cl_X5 h_this i_this, cl_X6 h_a1 h_a1_signs i_a1, (h_a1_signs, .inl (cI, 100, .inl f_a1_signs))] := hD
          refine lv_goto (tgt := 207) hx hb dX5_wrongAt_203 (by decide) ?_
          obtain ⟨rfl, rfl⟩ := pj2 h
          exact hEnd _ _ _ _ hP hS dX5_wrongAt_207 rfl
        have h := ite_t c19 h
        refine lv_iload hx hb dX5_wrongAt_194 (lv_at hl 4 rfl) ?_
        refine lv_if_le (tgt := 206) hx hb dX5_wrongAt_196 (by decide) (fun c22 => ?_) (fun c22 => ?_)
        · have h := ite_t c22 h
          refine lv_iconst (v := (-1 : Int32)) hx hb dX5_wrongAt_206 (by decide) ?_
          obtain ⟨rfl, rfl⟩ := pj2 h
          exact hEnd _ _ _ _ hP hS dX5_wrongAt_207 rfl
        have h := ite_f c22 h
        refine lv_aload_n hx hb dX5_wrongAt_199 rfl (lv_at hl 1 rfl) ?_
        obtain ⟨r23, hc24, h⟩ := bd1_at h
        refine kjI (kV (own := "DateSpans$SpanReader") (C := "DateSpans$Text") (b := h_a1) (As := []) (rest := []) ⟨hx, hb, hml, hown, hts⟩ (kX6_length l dC dI cI cJ cB h_a1 h_a1_signs N i_a1 r23 hc24 _) (kgV (kq q_792 rfl) (kq q_713 rfl) (kq q_714 rfl) (kq q_21 rfl) (kq q_715 rfl)) yd_X6_length ⟨Nat.le_of_ble_eq_true rfl, Nat.le_of_ble_eq_true rfl⟩ hN hK hP hD [1] rfl rfl (ci := 5) rfl rfl rfl rfl rfl hl.1 rfl (lv_room (Nat.le_of_ble_eq_true rfl)) dX5_wrongAt_200) hP hD hS hA [1] rfl rfl (fun H locs hP hD hS => ?_)
        have hP : va_P (dC, dI) vwCl [cl_X5 h_this i_this, cl_X6 h_a1 h_a1_signs i_a1, (h_a1_signs, .inl (cI, 100, .inl f_a1_signs))] H := hP
        have hD : va_D A [cl_X5 h_this i_this, cl_X6 h_a1 h_a1_signs i_a1, (h_a1_signs, .inl (cI, 100, .inl f_a1_signs))] := hD
        refine lv_goto (tgt := 207) hx hb dX5_wrongAt_203 (by decide) ?_
        obtain ⟨rfl, rfl⟩ := pj2 h
        exact hEnd _ _ _ _ hP hS dX5_wrongAt_207 rfl
      have h := ite_f c15 h
      refine lv_aload_n hx hb dX5_wrongAt_37 rfl (lv_at hl 1 rfl) ?_
      refine lv_iload hx hb dX5_wrongAt_38 (lv_at hl 6 rfl) ?_
      obtain ⟨r25, hc26, h⟩ := bd1_at h
      refine kjI (kV (own := "DateSpans$SpanReader") (C := "DateSpans$Text") (b := h_a1) (As := [.int v6]) (rest := []) ⟨hx, hb, hml, hown, hts⟩ (kX6_at l dC dI cI cJ cB h_a1 h_a1_signs N v6 i_a1 f_a1_signs r25 hc26 _) (kgV (kq q_793 rfl) (kq q_717 rfl) (kq q_718 rfl) (kq q_21 rfl) (kq q_719 rfl)) yd_X6_at ⟨Nat.le_of_ble_eq_true rfl, Nat.le_of_ble_eq_true rfl⟩ hN hK hP hD [1, 2] rfl rfl (ci := 5) rfl rfl rfl rfl rfl hl.1 rfl (lv_room (Nat.le_of_ble_eq_true rfl)) dX5_wrongAt_40) hP hD hS hA [1, 2] rfl rfl (fun H locs hP hD hS => ?_)
      have hP : va_P (dC, dI) vwCl [cl_X5 h_this i_this, cl_X6 h_a1 h_a1_signs i_a1, (h_a1_signs, .inl (cI, 100, .inl f_a1_signs))] H := hP
      have hD : va_D A [cl_X5 h_this i_this, cl_X6 h_a1 h_a1_signs i_a1, (h_a1_signs, .inl (cI, 100, .inl f_a1_signs))] := hD
      refine lv_istore (lv' := [(7, .int r25), (0, .ref h_this), (1, .ref h_a1), (2, .int v2), (3, .int v3), (4, .int v4), (5, .int v5), (6, .int v6)]) hx hb dX5_wrongAt_43 hl (by decide) rfl (fun ls hl => ?_)
      refine lv_iload_n hx hb dX5_wrongAt_45 rfl (lv_at hl 3 rfl) ?_
      refine lv_bipush (v := (6 : Int32)) hx hb dX5_wrongAt_46 (by decide) ?_
      refine lv_icmp_ne (tgt := 54) hx hb dX5_wrongAt_48 (by decide) (fun c27 => ?_) (fun c27 => ?_)
      · have h := ite_f c27 h
        refine lv_iload hx hb dX5_wrongAt_54 (lv_at hl 0 rfl) ?_
        refine lv_bipush (v := (48 : Int32)) hx hb dX5_wrongAt_56 (by decide) ?_
        refine lv_icmp_lt (tgt := 103) hx hb dX5_wrongAt_58 (by decide) (fun c28 => ?_) (fun c28 => ?_)
        · have h := ite_t c28 h
          exact JN_103 _ _ _ _ _ _ _ _ _ _ h (lv_sub hl [1, 2, 3, 4, 5, 6, 7, 0] rfl) hP hD hS
        have h := ite_f c28 h
        refine lv_iload hx hb dX5_wrongAt_61 (lv_at hl 0 rfl) ?_
        refine lv_bipush (v := (57 : Int32)) hx hb dX5_wrongAt_63 (by decide) ?_
        refine lv_icmp_gt (tgt := 103) hx hb dX5_wrongAt_65 (by decide) (fun c29 => ?_) (fun c29 => ?_)
        · have h := ite_t c29 h
          exact JN_103 _ _ _ _ _ _ _ _ _ _ h (lv_sub hl [1, 2, 3, 4, 5, 6, 7, 0] rfl) hP hD hS
        have h := ite_f c29 h
        refine lv_iload hx hb dX5_wrongAt_68 (lv_at hl 5 rfl) ?_
        refine lv_iconst (v := (5 : Int32)) hx hb dX5_wrongAt_70 (by decide) ?_
        refine lv_icmp_eq (tgt := 83) hx hb dX5_wrongAt_71 (by decide) (fun c30 => ?_) (fun c30 => ?_)
        · have h := ite_t c30 h
          refine lv_iload hx hb dX5_wrongAt_83 (lv_at hl 7 rfl) ?_
          obtain ⟨rfl, rfl⟩ := pj2 h
          exact hEnd _ _ _ _ hP hS dX5_wrongAt_85 rfl
        have h := ite_f c30 h
        refine lv_iload hx hb dX5_wrongAt_74 (lv_at hl 5 rfl) ?_
        refine lv_if_le (tgt := 86) hx hb dX5_wrongAt_76 (by decide) (fun c31 => ?_) (fun c31 => ?_)
        · have h := ite_t c31 h
          refine lv_iload_n hx hb dX5_wrongAt_86 rfl (lv_at hl 4 rfl) ?_
          refine lv_bipush (v := (10 : Int32)) hx hb dX5_wrongAt_87 (by decide) ?_
          refine lv_imul hx hb dX5_wrongAt_89 ?_
          refine lv_iload hx hb dX5_wrongAt_90 (lv_at hl 0 rfl) ?_
          refine lv_iadd hx hb dX5_wrongAt_92 ?_
          refine lv_bipush (v := (48 : Int32)) hx hb dX5_wrongAt_93 (by decide) ?_
          refine lv_isub hx hb dX5_wrongAt_95 ?_
          refine lv_topi (fun z32 ez32 => ?_)
          have h := nm_at ez32 h
          refine lv_istore_n (lv' := [(3, .int z32), (7, .int r25), (0, .ref h_this), (1, .ref h_a1), (2, .int v2), (4, .int v4), (5, .int v5), (6, .int v6)]) hx hb dX5_wrongAt_96 rfl hl (by decide) rfl (fun ls hl => ?_)
          obtain ⟨z33, ez33⟩ : ∃ y : Int32, y = (v4 + (1 : Int32)) := ⟨_, rfl⟩
          have h := nm_at ez33 h
          refine lv_iinc (v := z33) (lv' := [(4, .int z33), (3, .int z32), (7, .int r25), (0, .ref h_this), (1, .ref h_a1), (2, .int v2), (5, .int v5), (6, .int v6)]) hx hb dX5_wrongAt_97 hl (k := 5) rfl (by rw [ez33]; rfl) (by decide) rfl (fun ls hl => ?_)
          refine lv_goto (tgt := 178) hx hb dX5_wrongAt_100 (by decide) ?_
          obtain ⟨z34, ez34⟩ : ∃ y : Int32, y = (v6 + (1 : Int32)) := ⟨_, rfl⟩
          have h := nm_at ez34 h
          refine lv_iinc (v := z34) (lv' := [(6, .int z34), (4, .int z33), (3, .int z32), (7, .int r25), (0, .ref h_this), (1, .ref h_a1), (2, .int v2), (5, .int v5)]) hx hb dX5_wrongAt_178 hl (k := 7) rfl (by rw [ez34]; rfl) (by decide) rfl (fun ls hl => ?_)
          refine lv_goto (tgt := 28) hx hb dX5_wrongAt_181 (by decide) ?_
          exact ih_28 _ _ _ _ _ _ _ _ _ h (lv_sub hl [4, 5, 6, 2, 1, 7, 0] rfl) hP hD hS
        have h := ite_f c31 h
        refine lv_iload_n hx hb dX5_wrongAt_79 rfl (lv_at hl 4 rfl) ?_
        refine lv_if_ne (tgt := 86) hx hb dX5_wrongAt_80 (by decide) (fun c35 => ?_) (fun c35 => ?_)
        · have h := ite_f c35 h
          refine lv_iload_n hx hb dX5_wrongAt_86 rfl (lv_at hl 4 rfl) ?_
          refine lv_bipush (v := (10 : Int32)) hx hb dX5_wrongAt_87 (by decide) ?_
          refine lv_imul hx hb dX5_wrongAt_89 ?_
          refine lv_iload hx hb dX5_wrongAt_90 (lv_at hl 0 rfl) ?_
          refine lv_iadd hx hb dX5_wrongAt_92 ?_
          refine lv_bipush (v := (48 : Int32)) hx hb dX5_wrongAt_93 (by decide) ?_
          refine lv_isub hx hb dX5_wrongAt_95 ?_
          refine lv_topi (fun z36 ez36 => ?_)
          have h := nm_at ez36 h
          refine lv_istore_n (lv' := [(3, .int z36), (7, .int r25), (0, .ref h_this), (1, .ref h_a1), (2, .int v2), (4, .int v4), (5, .int v5), (6, .int v6)]) hx hb dX5_wrongAt_96 rfl hl (by decide) rfl (fun ls hl => ?_)
          obtain ⟨z37, ez37⟩ : ∃ y : Int32, y = (v4 + (1 : Int32)) := ⟨_, rfl⟩
          have h := nm_at ez37 h
          refine lv_iinc (v := z37) (lv' := [(4, .int z37), (3, .int z36), (7, .int r25), (0, .ref h_this), (1, .ref h_a1), (2, .int v2), (5, .int v5), (6, .int v6)]) hx hb dX5_wrongAt_97 hl (k := 5) rfl (by rw [ez37]; rfl) (by decide) rfl (fun ls hl => ?_)
          refine lv_goto (tgt := 178) hx hb dX5_wrongAt_100 (by decide) ?_
          obtain ⟨z38, ez38⟩ : ∃ y : Int32, y = (v6 + (1 : Int32)) := ⟨_, rfl⟩
          have h := nm_at ez38 h
          refine lv_iinc (v := z38) (lv' := [(6, .int z38), (4, .int z37), (3, .int z36), (7, .int r25), (0, .ref h_this), (1, .ref h_a1), (2, .int v2), (5, .int v5)]) hx hb dX5_wrongAt_178 hl (k := 7) rfl (by rw [ez38]; rfl) (by decide) rfl (fun ls hl => ?_)
          refine lv_goto (tgt := 28) hx hb dX5_wrongAt_181 (by decide) ?_
          exact ih_28 _ _ _ _ _ _ _ _ _ h (lv_sub hl [4, 5, 6, 2, 1, 7, 0] rfl) hP hD hS
        have h := ite_t c35 h
        refine lv_iload hx hb dX5_wrongAt_83 (lv_at hl 7 rfl) ?_
        obtain ⟨rfl, rfl⟩ := pj2 h
        exact hEnd _ _ _ _ hP hS dX5_wrongAt_85 rfl
      have h := ite_t c27 h
      refine lv_iload hx hb dX5_wrongAt_51 (lv_at hl 7 rfl) ?_
      obtain ⟨rfl, rfl⟩ := pj2 h
      exact hEnd _ _ _ _ hP hS dX5_wrongAt_53 rfl
  have h := hf
  unfold fX5_wrongAt at h
  refine lv_aload_n hx hb dX5_wrongAt_0 rfl (lv_at hl 0 rfl) ?_
  refine lv_iconst (v := (0 : Int32)) hx hb dX5_wrongAt_1 (by decide) ?_
  refine va_put (D := (dC, dI)) (ci := 4) (v := .int (0 : Int32)) (ty := .int) (C := RX5) (T := TX5) (N := 3) hx hb hts inX5 tyX5 tyX5_ok nmX5 hown hK hP hD hS 0 rfl rfl 0 (by decide) (hts _ (kq q_121 rfl)) (fun _ h9 => h9) rfl (by decide +kernel) rfl rfl (Nat.le_of_ble_eq_true rfl) dX5_wrongAt_2 (fun H locs hP hD hS => ?_)
  have hP : va_P (dC, dI) vwCl [(h_this, .inr (4, [.int (0 : Int32), .int (i_this 1), .int (i_this 2)])), cl_X6 h_a1 h_a1_signs i_a1, (h_a1_signs, .inl (cI, 100, .inl f_a1_signs))] H := hP
  have hD : va_D A [(h_this, .inr (4, [.int (0 : Int32), .int (i_this 1), .int (i_this 2)])), cl_X6 h_a1 h_a1_signs i_a1, (h_a1_signs, .inl (cI, 100, .inl f_a1_signs))] := hD
  refine lv_aload_n hx hb dX5_wrongAt_5 rfl (lv_at hl 0 rfl) ?_
  refine lv_iconst (v := (0 : Int32)) hx hb dX5_wrongAt_6 (by decide) ?_
  refine va_put (D := (dC, dI)) (ci := 4) (v := .int (0 : Int32)) (ty := .int) (C := RX5) (T := TX5) (N := 3) hx hb hts inX5 tyX5 tyX5_ok nmX5 hown hK hP hD hS 0 rfl rfl 1 (by decide) (hts _ (kq q_123 rfl)) (fun _ h9 => h9) rfl (by decide +kernel) rfl rfl (Nat.le_of_ble_eq_true rfl) dX5_wrongAt_7 (fun H locs hP hD hS => ?_)
  have hP : va_P (dC, dI) vwCl [(h_this, .inr (4, [.int (0 : Int32), .int (0 : Int32), .int (i_this 2)])), cl_X6 h_a1 h_a1_signs i_a1, (h_a1_signs, .inl (cI, 100, .inl f_a1_signs))] H := hP
  have hD : va_D A [(h_this, .inr (4, [.int (0 : Int32), .int (0 : Int32), .int (i_this 2)])), cl_X6 h_a1 h_a1_signs i_a1, (h_a1_signs, .inl (cI, 100, .inl f_a1_signs))] := hD
  refine lv_aload_n hx hb dX5_wrongAt_10 rfl (lv_at hl 0 rfl) ?_
  refine lv_iconst (v := (0 : Int32)) hx hb dX5_wrongAt_11 (by decide) ?_
  refine va_put (D := (dC, dI)) (ci := 4) (v := .int (0 : Int32)) (ty := .int) (C := RX5) (T := TX5) (N := 3) hx hb hts inX5 tyX5 tyX5_ok nmX5 hown hK hP hD hS 0 rfl rfl 2 (by decide) (hts _ (kq q_125 rfl)) (fun _ h9 => h9) rfl (by decide +kernel) rfl rfl (Nat.le_of_ble_eq_true rfl) dX5_wrongAt_12 (fun H locs hP hD hS => ?_)
  have hP : va_P (dC, dI) vwCl [(h_this, .inr (4, [.int (0 : Int32), .int (0 : Int32), .int (0 : Int32)])), cl_X6 h_a1 h_a1_signs i_a1, (h_a1_signs, .inl (cI, 100, .inl f_a1_signs))] H := hP
  have hD : va_D A [(h_this, .inr (4, [.int (0 : Int32), .int (0 : Int32), .int (0 : Int32)])), cl_X6 h_a1 h_a1_signs i_a1, (h_a1_signs, .inl (cI, 100, .inl f_a1_signs))] := hD
  refine lv_iconst (v := (-1 : Int32)) hx hb dX5_wrongAt_15 (by decide) ?_
  refine lv_istore_n (lv' := [(2, .int (-1 : Int32)), (0, .ref h_this), (1, .ref h_a1)]) hx hb dX5_wrongAt_16 rfl hl (by decide) rfl (fun ls hl => ?_)
  refine lv_iconst (v := (0 : Int32)) hx hb dX5_wrongAt_17 (by decide) ?_
  refine lv_istore_n (lv' := [(3, .int (0 : Int32)), (2, .int (-1 : Int32)), (0, .ref h_this), (1, .ref h_a1)]) hx hb dX5_wrongAt_18 rfl hl (by decide) rfl (fun ls hl => ?_)
  refine lv_iconst (v := (0 : Int32)) hx hb dX5_wrongAt_19 (by decide) ?_
  refine lv_istore (lv' := [(4, .int (0 : Int32)), (3, .int (0 : Int32)), (2, .int (-1 : Int32)), (0, .ref h_this), (1, .ref h_a1)]) hx hb dX5_wrongAt_20 hl (by decide) rfl (fun ls hl => ?_)
  refine lv_iconst (v := (0 : Int32)) hx hb dX5_wrongAt_22 (by decide) ?_
  refine lv_istore (lv' := [(5, .int (0 : Int32)), (4, .int (0 : Int32)), (3, .int (0 : Int32)), (2, .int (-1 : Int32)), (0, .ref h_this), (1, .ref h_a1)]) hx hb dX5_wrongAt_23 hl (by decide) rfl (fun ls hl => ?_)
  refine lv_iconst (v := (0 : Int32)) hx hb dX5_wrongAt_25 (by decide) ?_
  refine lv_istore (lv' := [(6, .int (0 : Int32)), (5, .int (0 : Int32)), (4, .int (0 : Int32)), (3, .int (0 : Int32)), (2, .int (-1 : Int32)), (0, .ref h_this), (1, .ref h_a1)]) hx hb dX5_wrongAt_26 hl (by decide) rfl (fun ls hl => ?_)
  have hP : va_P (dC, dI) vwCl [cl_X5 h_this (upd (upd (upd i_this 0 (0 : Int32)) 1 (0 : Int32)) 2 (0 : Int32)), cl_X6 h_a1 h_a1_signs i_a1, (h_a1_signs, .inl (cI, 100, .inl f_a1_signs))] H := hP
  have hD : va_D A [cl_X5 h_this (upd (upd (upd i_this 0 (0 : Int32)) 1 (0 : Int32)) 2 (0 : Int32)), cl_X6 h_a1 h_a1_signs i_a1, (h_a1_signs, .inl (cI, 100, .inl f_a1_signs))] := hD
  exact LP_28 N _ _ _ _ _ _ _ _ _ h (lv_sub hl [5, 6, 4, 3, 2, 1, 0] rfl) hP hD hS
noncomputable def fX9_isBounded (N : Nat) (p1 : Int64) : Option (Int32) := (if (lg_cmp p1 (-1000000000 : Int64)) < (0 : Int32) then (some (0 : Int32)) else (if (0 : Int32) < (lg_cmp p1 (1000000000 : Int64)) then (some (0 : Int32)) else (some (1 : Int32))))
set_option maxHeartbeats 4000000 in
set_option maxRecDepth 100000 in
theorem kX9_isBounded (l : Launch) (N : Nat) (p1 : Int64) (r : Int32) (hf : fX9_isBounded N p1 = some r) : SI l yX9_isBounded (kws yX9_isBounded cX9_isBounded 2 (some .boolean)) (kR 0 0) [.long p1] r := by
  refine SI.of (cc := cX9_isBounded) (maxL := 2) (by decide) (Nat.le_of_ble_eq_true rfl) (fun p e s m args below meth c Q ls KC hl hEnd => ?_)
  obtain ⟨hx, hb, hml, hown, hts⟩ := KC
  have hown : s.vm.findClass "DateSpans" = some m.cls := hown
  have hl : lv_has ls 2 [(0, .long p1)] := hl
  have h := hf
  unfold fX9_isBounded at h
  refine lv_lload_n hx hb dX9_isBounded_0 rfl (lv_at hl 0 rfl) ?_
  refine lv_ldc2 (v := (-1000000000 : Int64)) hx hb hown (hts _ (kq q_294 rfl)) dX9_isBounded_1 ?_
  refine W.lcmp hx hb dX9_isBounded_4 ?_
  refine lv_if_lt (tgt := 20) hx hb dX9_isBounded_5 (by decide) (fun c1 => ?_) (fun c1 => ?_)
  · have h := ite_t c1 h
    refine lv_iconst (v := (0 : Int32)) hx hb dX9_isBounded_20 (by decide) ?_
    obtain rfl := pj1 h
    exact hEnd _ _ dX9_isBounded_21 rfl
  have h := ite_f c1 h
  refine lv_lload_n hx hb dX9_isBounded_8 rfl (lv_at hl 0 rfl) ?_
  refine lv_ldc2 (v := (1000000000 : Int64)) hx hb hown (hts _ (kq q_295 rfl)) dX9_isBounded_9 ?_
  refine W.lcmp hx hb dX9_isBounded_12 ?_
  refine lv_if_gt (tgt := 20) hx hb dX9_isBounded_13 (by decide) (fun c2 => ?_) (fun c2 => ?_)
  · have h := ite_t c2 h
    refine lv_iconst (v := (0 : Int32)) hx hb dX9_isBounded_20 (by decide) ?_
    obtain rfl := pj1 h
    exact hEnd _ _ dX9_isBounded_21 rfl
  have h := ite_f c2 h
  refine lv_iconst (v := (1 : Int32)) hx hb dX9_isBounded_16 (by decide) ?_
  refine lv_goto (tgt := 21) hx hb dX9_isBounded_17 (by decide) ?_
  obtain rfl := pj1 h
  exact hEnd _ _ dX9_isBounded_21 rfl
noncomputable def fX9_areBounded (N : Nat) (p1 : Int64) (p2 : Int64) (p3 : Int64) : Option (Int32) := (bd1 (fX9_isBounded N p1) fun r1 => (if r1 = (0 : Int32) then (some (0 : Int32)) else (bd1 (fX9_isBounded N p2) fun r4 => (if r4 = (0 : Int32) then (some (0 : Int32)) else (bd1 (fX9_isBounded N p3) fun r7 => (if r7 = (0 : Int32) then (some (0 : Int32)) else (some (1 : Int32))))))))
set_option maxHeartbeats 4000000 in
set_option maxRecDepth 100000 in
theorem kX9_areBounded (l : Launch) (N : Nat) (p1 : Int64) (p2 : Int64) (p3 : Int64) (r : Int32) (hf : fX9_areBounded N p1 p2 p3 = some r) : SI l yX9_areBounded (kws yX9_areBounded cX9_areBounded 6 (some .boolean)) (kR 1 21) [.long p1, .long p2, .long p3] r := by
  refine SI.of (cc := cX9_areBounded) (maxL := 6) (by decide) (Nat.le_of_ble_eq_true rfl) (fun p e s m args below meth c Q ls KC hl hEnd => ?_)
  obtain ⟨hx, hb, hml, hown, hts⟩ := KC
  have hown : s.vm.findClass "DateSpans" = some m.cls := hown
  have hl : lv_has ls 6 [(0, .long p1), (2, .long p2), (4, .long p3)] := hl
  have h := hf
  unfold fX9_areBounded at h
  refine lv_lload_n hx hb dX9_areBounded_0 rfl (lv_at hl 0 rfl) ?_
  obtain ⟨r1, hc2, h⟩ := bd1_at h
  refine kjSI (kS0 (own := "DateSpans") (As := [.long p1]) (rest := []) ⟨hx, hb, hml, hown, hts⟩ (kX9_isBounded l N p1 r1 hc2) (kgS (kq q_291 rfl) (kq q_292 rfl) (kq q_18 rfl) (kq q_293 rfl)) yd_X9_isBounded ⟨Nat.le_of_ble_eq_true rfl, Nat.le_of_ble_eq_true rfl⟩ rfl rfl hl.1 rfl (lv_room (Nat.le_of_ble_eq_true rfl)) dX9_areBounded_1) ?_
  refine lv_if_eq (tgt := 26) hx hb dX9_areBounded_4 (by decide) (fun c3 => ?_) (fun c3 => ?_)
  · have h := ite_t c3 h
    refine lv_iconst (v := (0 : Int32)) hx hb dX9_areBounded_26 (by decide) ?_
    obtain rfl := pj1 h
    exact hEnd _ _ dX9_areBounded_27 rfl
  have h := ite_f c3 h
  refine lv_lload_n hx hb dX9_areBounded_7 rfl (lv_at hl 1 rfl) ?_
  obtain ⟨r4, hc5, h⟩ := bd1_at h
  refine kjSI (kS0 (own := "DateSpans") (As := [.long p2]) (rest := []) ⟨hx, hb, hml, hown, hts⟩ (kX9_isBounded l N p2 r4 hc5) (kgS (kq q_291 rfl) (kq q_292 rfl) (kq q_18 rfl) (kq q_293 rfl)) yd_X9_isBounded ⟨Nat.le_of_ble_eq_true rfl, Nat.le_of_ble_eq_true rfl⟩ rfl rfl hl.1 rfl (lv_room (Nat.le_of_ble_eq_true rfl)) dX9_areBounded_8) ?_
  refine lv_if_eq (tgt := 26) hx hb dX9_areBounded_11 (by decide) (fun c6 => ?_) (fun c6 => ?_)
  · have h := ite_t c6 h
    refine lv_iconst (v := (0 : Int32)) hx hb dX9_areBounded_26 (by decide) ?_
    obtain rfl := pj1 h
    exact hEnd _ _ dX9_areBounded_27 rfl
  have h := ite_f c6 h
  refine lv_lload hx hb dX9_areBounded_14 (lv_at hl 2 rfl) ?_
  obtain ⟨r7, hc8, h⟩ := bd1_at h
  refine kjSI (kS0 (own := "DateSpans") (As := [.long p3]) (rest := []) ⟨hx, hb, hml, hown, hts⟩ (kX9_isBounded l N p3 r7 hc8) (kgS (kq q_291 rfl) (kq q_292 rfl) (kq q_18 rfl) (kq q_293 rfl)) yd_X9_isBounded ⟨Nat.le_of_ble_eq_true rfl, Nat.le_of_ble_eq_true rfl⟩ rfl rfl hl.1 rfl (lv_room (Nat.le_of_ble_eq_true rfl)) dX9_areBounded_16) ?_
  refine lv_if_eq (tgt := 26) hx hb dX9_areBounded_19 (by decide) (fun c9 => ?_) (fun c9 => ?_)
  · have h := ite_t c9 h
    refine lv_iconst (v := (0 : Int32)) hx hb dX9_areBounded_26 (by decide) ?_
    obtain rfl := pj1 h
    exact hEnd _ _ dX9_areBounded_27 rfl
  have h := ite_f c9 h
  refine lv_iconst (v := (1 : Int32)) hx hb dX9_areBounded_22 (by decide) ?_
  refine lv_goto (tgt := 27) hx hb dX9_areBounded_23 (by decide) ?_
  obtain rfl := pj1 h
  exact hEnd _ _ dX9_areBounded_27 rfl
noncomputable def fX4_putSpan (N : Nat) (p1 : Int32) (p2 : Int32) (p3 : Int32) (p4 : Int32) (f_this_months : Nat → Int32) (f_this_days : Nat → Int32) (f_this_seconds : Nat → Int32) : Option ((Nat → Int32) × (Nat → Int32) × (Nat → Int32)) := (bd1 (fX9_isSlot N p1) fun r1 => (if r1 = (0 : Int32) then (some (f_this_months, f_this_days, f_this_seconds)) else (gi p1 8 (gi p1 8 (gi p1 8 (some ((upd f_this_months p1.toNatClampNeg p2), (upd f_this_days p1.toNatClampNeg p3), (upd f_this_seconds p1.toNatClampNeg p4))))))))
set_option maxHeartbeats 4000000 in
set_option maxRecDepth 100000 in
theorem kX4_putSpan (l : Launch) (dC : Nat → ClassId) (dI : Nat → Nat → Nat) (cI cJ cB : ClassId) (h_this h_this_day h_this_second h_this_months h_this_days h_this_seconds : Nat) (N : Nat) (p1 : Int32) (p2 : Int32) (p3 : Int32) (p4 : Int32) (f_this_months : Nat → Int32) (f_this_days : Nat → Int32) (f_this_seconds : Nat → Int32) (o_f_this_months : Nat → Int32) (o_f_this_days : Nat → Int32) (o_f_this_seconds : Nat → Int32) (hf : fX4_putSpan N p1 p2 p3 p4 f_this_months f_this_days f_this_seconds = some (o_f_this_months, o_f_this_days, o_f_this_seconds)) : MV l yX4_putSpan (kws yX4_putSpan cX4_putSpan 5 (none)) (kR 1 20) (dC, dI) (kT cI cJ cB) [.ref h_this, .int p1, .int p2, .int p3, .int p4] [cl_X4 h_this h_this_day h_this_second h_this_months h_this_days h_this_seconds, (h_this_months, .inl (cI, 8, .inl f_this_months)), (h_this_days, .inl (cI, 8, .inl f_this_days)), (h_this_seconds, .inl (cI, 8, .inl f_this_seconds))] [cl_X4 h_this h_this_day h_this_second h_this_months h_this_days h_this_seconds, (h_this_months, .inl (cI, 8, .inl o_f_this_months)), (h_this_days, .inl (cI, 8, .inl o_f_this_days)), (h_this_seconds, .inl (cI, 8, .inl o_f_this_seconds))] := by
  refine MV.of (cc := cX4_putSpan) (maxL := 5) (by decide) (Nat.le_of_ble_eq_true rfl) (fun p e s m args below meth c A Q ls KC hN hK hP hD hA hl hEnd => ?_)
  obtain ⟨hx, hb, hml, hown, hts⟩ := KC
  have hown : s.vm.findClass "DateSpans$Slots" = some m.cls := hown
  have hl : lv_has ls 5 [(0, .ref h_this), (1, .int p1), (2, .int p2), (3, .int p3), (4, .int p4)] := hl
  have hS : va_S A s.heap s.heap [] := va_S.rf
  have h := hf
  unfold fX4_putSpan at h
  refine lv_iload_n hx hb dX4_putSpan_0 rfl (lv_at hl 1 rfl) ?_
  obtain ⟨r1, hc2, h⟩ := bd1_at h
  refine kjSI (kSN0 (own := "DateSpans$Slots") (As := [.int p1]) (rest := []) ⟨hx, hb, hml, hown, hts⟩ (kX9_isSlot l N p1 r1 hc2) (kgN (kq q_269 rfl)) (hN _ q_279 rfl) (kq q_268 rfl) (kq q_18 rfl) yd_X9_isSlot ⟨Nat.le_of_ble_eq_true rfl, Nat.le_of_ble_eq_true rfl⟩ rfl rfl hl.1 rfl (lv_room (Nat.le_of_ble_eq_true rfl)) dX4_putSpan_1) ?_
  refine lv_if_eq (tgt := 29) hx hb dX4_putSpan_4 (by decide) (fun c3 => ?_) (fun c3 => ?_)
  · have h := ite_t c3 h
    obtain ⟨rfl, rfl, rfl⟩ := pj3 h
    exact hEnd _ _ _ _ hP hS dX4_putSpan_29
  have h := ite_f c3 h
  refine lv_aload_n hx hb dX4_putSpan_7 rfl (lv_at hl 0 rfl) ?_
  refine va_get (D := (dC, dI)) (ci := 3) (v := .ref h_this_months) (C := RX4) (T := TX4) (N := 5) hx hb hts inX4 hown hK hP 0 rfl rfl 2 (by decide) (hts _ (kq q_49 rfl)) (fun _ h9 => h9) rfl dX4_putSpan_8 ?_
  refine lv_iload_n hx hb dX4_putSpan_11 rfl (lv_at hl 1 rfl) ?_
  refine lv_iload_n hx hb dX4_putSpan_12 rfl (lv_at hl 2 rfl) ?_
  obtain ⟨hi4, h⟩ := gi_at h
  refine va_iast hx hb hK hP hD hS 1 0 rfl rfl hi4 dX4_putSpan_13 (fun H locs hP hD hS => ?_)
  have hP : va_P (dC, dI) vwCl [cl_X4 h_this h_this_day h_this_second h_this_months h_this_days h_this_seconds, (h_this_months, .inl (cI, 8, .inl (upd f_this_months p1.toNatClampNeg p2))), (h_this_days, .inl (cI, 8, .inl f_this_days)), (h_this_seconds, .inl (cI, 8, .inl f_this_seconds))] H := hP
  have hD : va_D A [cl_X4 h_this h_this_day h_this_second h_this_months h_this_days h_this_seconds, (h_this_months, .inl (cI, 8, .inl (upd f_this_months p1.toNatClampNeg p2))), (h_this_days, .inl (cI, 8, .inl f_this_days)), (h_this_seconds, .inl (cI, 8, .inl f_this_seconds))] := hD
  refine lv_aload_n hx hb dX4_putSpan_14 rfl (lv_at hl 0 rfl) ?_
  refine va_get (D := (dC, dI)) (ci := 3) (v := .ref h_this_days) (C := RX4) (T := TX4) (N := 5) hx hb hts inX4 hown hK hP 0 rfl rfl 3 (by decide) (hts _ (kq q_50 rfl)) (fun _ h9 => h9) rfl dX4_putSpan_15 ?_
  refine lv_iload_n hx hb dX4_putSpan_18 rfl (lv_at hl 1 rfl) ?_
  refine lv_iload_n hx hb dX4_putSpan_19 rfl (lv_at hl 3 rfl) ?_
  obtain ⟨hi5, h⟩ := gi_at h
  refine va_iast hx hb hK hP hD hS 2 0 rfl rfl hi5 dX4_putSpan_20 (fun H locs hP hD hS => ?_)
  have hP : va_P (dC, dI) vwCl [cl_X4 h_this h_this_day h_this_second h_this_months h_this_days h_this_seconds, (h_this_months, .inl (cI, 8, .inl (upd f_this_months p1.toNatClampNeg p2))), (h_this_days, .inl (cI, 8, .inl (upd f_this_days p1.toNatClampNeg p3))), (h_this_seconds, .inl (cI, 8, .inl f_this_seconds))] H := hP
  have hD : va_D A [cl_X4 h_this h_this_day h_this_second h_this_months h_this_days h_this_seconds, (h_this_months, .inl (cI, 8, .inl (upd f_this_months p1.toNatClampNeg p2))), (h_this_days, .inl (cI, 8, .inl (upd f_this_days p1.toNatClampNeg p3))), (h_this_seconds, .inl (cI, 8, .inl f_this_seconds))] := hD
  refine lv_aload_n hx hb dX4_putSpan_21 rfl (lv_at hl 0 rfl) ?_
  refine va_get (D := (dC, dI)) (ci := 3) (v := .ref h_this_seconds) (C := RX4) (T := TX4) (N := 5) hx hb hts inX4 hown hK hP 0 rfl rfl 4 (by decide) (hts _ (kq q_51 rfl)) (fun _ h9 => h9) rfl dX4_putSpan_22 ?_
  refine lv_iload_n hx hb dX4_putSpan_25 rfl (lv_at hl 1 rfl) ?_
  refine lv_iload hx hb dX4_putSpan_26 (lv_at hl 4 rfl) ?_
  obtain ⟨hi6, h⟩ := gi_at h
  refine va_iast hx hb hK hP hD hS 3 0 rfl rfl hi6 dX4_putSpan_28 (fun H locs hP hD hS => ?_)
  have hP : va_P (dC, dI) vwCl [cl_X4 h_this h_this_day h_this_second h_this_months h_this_days h_this_seconds, (h_this_months, .inl (cI, 8, .inl (upd f_this_months p1.toNatClampNeg p2))), (h_this_days, .inl (cI, 8, .inl (upd f_this_days p1.toNatClampNeg p3))), (h_this_seconds, .inl (cI, 8, .inl (upd f_this_seconds p1.toNatClampNeg p4)))] H := hP
  have hD : va_D A [cl_X4 h_this h_this_day h_this_second h_this_months h_this_days h_this_seconds, (h_this_months, .inl (cI, 8, .inl (upd f_this_months p1.toNatClampNeg p2))), (h_this_days, .inl (cI, 8, .inl (upd f_this_days p1.toNatClampNeg p3))), (h_this_seconds, .inl (cI, 8, .inl (upd f_this_seconds p1.toNatClampNeg p4)))] := hD
  obtain ⟨rfl, rfl, rfl⟩ := pj3 h
  exact hEnd _ _ _ _ hP hS dX4_putSpan_29
noncomputable def fX3_begin (N : Nat) (i_this : Int32) : Option (Int32) := (some (0 : Int32))
set_option maxHeartbeats 4000000 in
set_option maxRecDepth 100000 in
theorem kX3_begin (l : Launch) (dC : Nat → ClassId) (dI : Nat → Nat → Nat) (cI cJ cB : ClassId) (h_this h_this_numbers : Nat) (N : Nat) (i_this : Int32) (o_i_this : Int32) (hf : fX3_begin N i_this = some o_i_this) : MV l yX3_begin (kws yX3_begin cX3_begin 1 (none)) (kR 0 0) (dC, dI) (kT cI cJ cB) [.ref h_this] [cl_X3 h_this h_this_numbers i_this] [cl_X3 h_this h_this_numbers o_i_this] := by
  refine MV.of (cc := cX3_begin) (maxL := 1) (by decide) (Nat.le_of_ble_eq_true rfl) (fun p e s m args below meth c A Q ls KC hN hK hP hD hA hl hEnd => ?_)
  obtain ⟨hx, hb, hml, hown, hts⟩ := KC
  have hown : s.vm.findClass "DateSpans$Row" = some m.cls := hown
  have hl : lv_has ls 1 [(0, .ref h_this)] := hl
  have hS : va_S A s.heap s.heap [] := va_S.rf
  have h := hf
  unfold fX3_begin at h
  refine lv_aload_n hx hb dX3_begin_0 rfl (lv_at hl 0 rfl) ?_
  refine lv_iconst (v := (0 : Int32)) hx hb dX3_begin_1 (by decide) ?_
  refine va_put (D := (dC, dI)) (ci := 2) (v := .int (0 : Int32)) (ty := .int) (C := RX3) (T := TX3) (N := 2) hx hb hts inX3 tyX3 tyX3_ok nmX3 hown hK hP hD hS 0 rfl rfl 1 (by decide) (hts _ (kq q_71 rfl)) (fun _ h9 => h9) rfl (by decide +kernel) rfl rfl (Nat.le_of_ble_eq_true rfl) dX3_begin_2 (fun H locs hP hD hS => ?_)
  have hP : va_P (dC, dI) vwCl [cl_X3 h_this h_this_numbers (0 : Int32)] H := hP
  have hD : va_D A [cl_X3 h_this h_this_numbers (0 : Int32)] := hD
  obtain rfl := pj1 h
  exact hEnd _ _ _ _ hP hS dX3_begin_5
noncomputable def fX3_push (N : Nat) (p1 : Int64) (i_this : Int32) (f_this_numbers : Nat → Int64) : Option (Int32 × (Nat → Int64)) := (if i_this < (0 : Int32) then (some (i_this, f_this_numbers)) else (if (8 : Int32) ≤ i_this then (some (i_this, f_this_numbers)) else (gi i_this 8 (some ((i_this + (1 : Int32)), (vp_updL f_this_numbers i_this.toNatClampNeg p1))))))
set_option maxHeartbeats 4000000 in
set_option maxRecDepth 100000 in
theorem kX3_push (l : Launch) (dC : Nat → ClassId) (dI : Nat → Nat → Nat) (cI cJ cB : ClassId) (h_this h_this_numbers : Nat) (N : Nat) (p1 : Int64) (i_this : Int32) (f_this_numbers : Nat → Int64) (o_i_this : Int32) (o_f_this_numbers : Nat → Int64) (hf : fX3_push N p1 i_this f_this_numbers = some (o_i_this, o_f_this_numbers)) : MV l yX3_push (kws yX3_push cX3_push 3 (none)) (kR 0 0) (dC, dI) (kT cI cJ cB) [.ref h_this, .long p1] [cl_X3 h_this h_this_numbers i_this, (h_this_numbers, .inl (cJ, 8, .inr (.inl f_this_numbers)))] [cl_X3 h_this h_this_numbers o_i_this, (h_this_numbers, .inl (cJ, 8, .inr (.inl o_f_this_numbers)))] := by
  refine MV.of (cc := cX3_push) (maxL := 3) (by decide) (Nat.le_of_ble_eq_true rfl) (fun p e s m args below meth c A Q ls KC hN hK hP hD hA hl hEnd => ?_)
  obtain ⟨hx, hb, hml, hown, hts⟩ := KC
  have hown : s.vm.findClass "DateSpans$Row" = some m.cls := hown
  have hl : lv_has ls 3 [(0, .ref h_this), (1, .long p1)] := hl
  have hS : va_S A s.heap s.heap [] := va_S.rf
  have h := hf
  unfold fX3_push at h
  refine lv_aload_n hx hb dX3_push_0 rfl (lv_at hl 0 rfl) ?_
  refine va_get (D := (dC, dI)) (ci := 2) (v := .int i_this) (C := RX3) (T := TX3) (N := 2) hx hb hts inX3 hown hK hP 0 rfl rfl 1 (by decide) (hts _ (kq q_71 rfl)) (fun _ h9 => h9) rfl dX3_push_1 ?_
  refine lv_if_lt (tgt := 39) hx hb dX3_push_4 (by decide) (fun c1 => ?_) (fun c1 => ?_)
  · have h := ite_t c1 h
    obtain ⟨rfl, rfl⟩ := pj2 h
    exact hEnd _ _ _ _ hP hS dX3_push_39
  have h := ite_f c1 h
  refine lv_aload_n hx hb dX3_push_7 rfl (lv_at hl 0 rfl) ?_
  refine va_get (D := (dC, dI)) (ci := 2) (v := .int i_this) (C := RX3) (T := TX3) (N := 2) hx hb hts inX3 hown hK hP 0 rfl rfl 1 (by decide) (hts _ (kq q_71 rfl)) (fun _ h9 => h9) rfl dX3_push_8 ?_
  refine lv_aload_n hx hb dX3_push_11 rfl (lv_at hl 0 rfl) ?_
  refine va_get (D := (dC, dI)) (ci := 2) (v := .ref h_this_numbers) (C := RX3) (T := TX3) (N := 2) hx hb hts inX3 hown hK hP 0 rfl rfl 0 (by decide) (hts _ (kq q_70 rfl)) (fun _ h9 => h9) rfl dX3_push_12 ?_
  refine va_alen (v := (8 : Int32)) hx hb hK hP 1 1 rfl (ty := .long) rfl (show Int32.ofNat 8 = (8 : Int32) by decide) dX3_push_15 ?_
  refine lv_icmp_ge (tgt := 39) hx hb dX3_push_16 (by decide) (fun c2 => ?_) (fun c2 => ?_)
  · have h := ite_t c2 h
    obtain ⟨rfl, rfl⟩ := pj2 h
    exact hEnd _ _ _ _ hP hS dX3_push_39
  have h := ite_f c2 h
  refine lv_aload_n hx hb dX3_push_19 rfl (lv_at hl 0 rfl) ?_
  refine va_get (D := (dC, dI)) (ci := 2) (v := .ref h_this_numbers) (C := RX3) (T := TX3) (N := 2) hx hb hts inX3 hown hK hP 0 rfl rfl 0 (by decide) (hts _ (kq q_70 rfl)) (fun _ h9 => h9) rfl dX3_push_20 ?_
  refine lv_aload_n hx hb dX3_push_23 rfl (lv_at hl 0 rfl) ?_
  refine va_get (D := (dC, dI)) (ci := 2) (v := .int i_this) (C := RX3) (T := TX3) (N := 2) hx hb hts inX3 hown hK hP 0 rfl rfl 1 (by decide) (hts _ (kq q_71 rfl)) (fun _ h9 => h9) rfl dX3_push_24 ?_
  refine lv_lload_n hx hb dX3_push_27 rfl (lv_at hl 1 rfl) ?_
  obtain ⟨hi3, h⟩ := gi_at h
  refine va_last hx hb hK hP hD hS 1 1 rfl rfl hi3 dX3_push_28 (fun H locs hP hD hS => ?_)
  have hP : va_P (dC, dI) vwCl [cl_X3 h_this h_this_numbers i_this, (h_this_numbers, .inl (cJ, 8, .inr (.inl (vp_updL f_this_numbers i_this.toNatClampNeg p1))))] H := hP
  have hD : va_D A [cl_X3 h_this h_this_numbers i_this, (h_this_numbers, .inl (cJ, 8, .inr (.inl (vp_updL f_this_numbers i_this.toNatClampNeg p1))))] := hD
  refine lv_aload_n hx hb dX3_push_29 rfl (lv_at hl 0 rfl) ?_
  refine lv_dup hx hb dX3_push_30 rfl ?_
  refine va_get (D := (dC, dI)) (ci := 2) (v := .int i_this) (C := RX3) (T := TX3) (N := 2) hx hb hts inX3 hown hK hP 0 rfl rfl 1 (by decide) (hts _ (kq q_71 rfl)) (fun _ h9 => h9) rfl dX3_push_31 ?_
  refine lv_iconst (v := (1 : Int32)) hx hb dX3_push_34 (by decide) ?_
  refine lv_iadd hx hb dX3_push_35 ?_
  refine va_put (D := (dC, dI)) (ci := 2) (v := .int (i_this + (1 : Int32))) (ty := .int) (C := RX3) (T := TX3) (N := 2) hx hb hts inX3 tyX3 tyX3_ok nmX3 hown hK hP hD hS 0 rfl rfl 1 (by decide) (hts _ (kq q_71 rfl)) (fun _ h9 => h9) rfl (by decide +kernel) rfl rfl (Nat.le_of_ble_eq_true rfl) dX3_push_36 (fun H locs hP hD hS => ?_)
  have hP : va_P (dC, dI) vwCl [cl_X3 h_this h_this_numbers (i_this + (1 : Int32)), (h_this_numbers, .inl (cJ, 8, .inr (.inl (vp_updL f_this_numbers i_this.toNatClampNeg p1))))] H := hP
  have hD : va_D A [cl_X3 h_this h_this_numbers (i_this + (1 : Int32)), (h_this_numbers, .inl (cJ, 8, .inr (.inl (vp_updL f_this_numbers i_this.toNatClampNeg p1))))] := hD
  obtain ⟨rfl, rfl⟩ := pj2 h
  exact hEnd _ _ _ _ hP hS dX3_push_39
noncomputable def fX3_tell (N : Nat) (p1 : Int64) (i_this : Int32) (f_this_numbers : Nat → Int64) : Option (Int32 × (Nat → Int64)) := (bd1 (fX3_begin N i_this) fun i_this_1 => (bd2 (fX3_push N p1 i_this_1 f_this_numbers) fun i_this_3 f_this_numbers_4 => (some (i_this_3, f_this_numbers_4))))
set_option maxHeartbeats 4000000 in
set_option maxRecDepth 100000 in
theorem kX3_tell (l : Launch) (dC : Nat → ClassId) (dI : Nat → Nat → Nat) (cI cJ cB : ClassId) (h_this h_this_numbers : Nat) (N : Nat) (p1 : Int64) (i_this : Int32) (f_this_numbers : Nat → Int64) (o_i_this : Int32) (o_f_this_numbers : Nat → Int64) (hf : fX3_tell N p1 i_this f_this_numbers = some (o_i_this, o_f_this_numbers)) : MV l yX3_tell (kws yX3_tell cX3_tell 3 (none)) (kR 1 22) (dC, dI) (kT cI cJ cB) [.ref h_this, .long p1] [cl_X3 h_this h_this_numbers i_this, (h_this_numbers, .inl (cJ, 8, .inr (.inl f_this_numbers)))] [cl_X3 h_this h_this_numbers o_i_this, (h_this_numbers, .inl (cJ, 8, .inr (.inl o_f_this_numbers)))] := by
  refine MV.of (cc := cX3_tell) (maxL := 3) (by decide) (Nat.le_of_ble_eq_true rfl) (fun p e s m args below meth c A Q ls KC hN hK hP hD hA hl hEnd => ?_)
  obtain ⟨hx, hb, hml, hown, hts⟩ := KC
  have hown : s.vm.findClass "DateSpans$Row" = some m.cls := hown
  have hl : lv_has ls 3 [(0, .ref h_this), (1, .long p1)] := hl
  have hS : va_S A s.heap s.heap [] := va_S.rf
  have h := hf
  unfold fX3_tell at h
  refine lv_aload_n hx hb dX3_tell_0 rfl (lv_at hl 0 rfl) ?_
  obtain ⟨i_this_1, hc2, h⟩ := bd1_at h
  refine kjV (kV (own := "DateSpans$Row") (C := "DateSpans$Row") (b := h_this) (As := []) (rest := []) ⟨hx, hb, hml, hown, hts⟩ (kX3_begin l dC dI cI cJ cB h_this h_this_numbers N i_this i_this_1 hc2 _) (kgV (kq q_426 rfl) (kq q_427 rfl) (kq q_428 rfl) (kq q_20 rfl) (kq q_429 rfl)) yd_X3_begin ⟨Nat.le_of_ble_eq_true rfl, Nat.le_of_ble_eq_true rfl⟩ hN hK hP hD [0] rfl rfl (ci := 2) rfl rfl rfl rfl rfl hl.1 rfl (lv_room (Nat.le_of_ble_eq_true rfl)) dX3_tell_1) hP hD hS hA [0] rfl rfl (fun H locs hP hD hS => ?_)
  have hP : va_P (dC, dI) vwCl [cl_X3 h_this h_this_numbers i_this_1, (h_this_numbers, .inl (cJ, 8, .inr (.inl f_this_numbers)))] H := hP
  have hD : va_D A [cl_X3 h_this h_this_numbers i_this_1, (h_this_numbers, .inl (cJ, 8, .inr (.inl f_this_numbers)))] := hD
  refine lv_aload_n hx hb dX3_tell_4 rfl (lv_at hl 0 rfl) ?_
  refine lv_lload_n hx hb dX3_tell_5 rfl (lv_at hl 1 rfl) ?_
  obtain ⟨i_this_3, f_this_numbers_4, hc5, h⟩ := bd2_at h
  refine kjV (kV (own := "DateSpans$Row") (C := "DateSpans$Row") (b := h_this) (As := [.long p1]) (rest := []) ⟨hx, hb, hml, hown, hts⟩ (kX3_push l dC dI cI cJ cB h_this h_this_numbers N p1 i_this_1 f_this_numbers i_this_3 f_this_numbers_4 hc5 _) (kgV (kq q_430 rfl) (kq q_431 rfl) (kq q_432 rfl) (kq q_20 rfl) (kq q_433 rfl)) yd_X3_push ⟨Nat.le_of_ble_eq_true rfl, Nat.le_of_ble_eq_true rfl⟩ hN hK hP hD [0, 1] rfl rfl (ci := 2) rfl rfl rfl rfl rfl hl.1 rfl (lv_room (Nat.le_of_ble_eq_true rfl)) dX3_tell_6) hP hD hS hA [0, 1] rfl rfl (fun H locs hP hD hS => ?_)
  have hP : va_P (dC, dI) vwCl [cl_X3 h_this h_this_numbers i_this_3, (h_this_numbers, .inl (cJ, 8, .inr (.inl f_this_numbers_4)))] H := hP
  have hD : va_D A [cl_X3 h_this h_this_numbers i_this_3, (h_this_numbers, .inl (cJ, 8, .inr (.inl f_this_numbers_4)))] := hD
  obtain ⟨rfl, rfl⟩ := pj2 h
  exact hEnd _ _ _ _ hP hS dX3_tell_9
noncomputable def fX3_tell_ (N : Nat) (p1 : Int64) (p2 : Int64) (i_this : Int32) (f_this_numbers : Nat → Int64) : Option (Int32 × (Nat → Int64)) := (bd2 (fX3_tell N p1 i_this f_this_numbers) fun i_this_1 f_this_numbers_2 => (bd2 (fX3_push N p2 i_this_1 f_this_numbers_2) fun i_this_4 f_this_numbers_5 => (some (i_this_4, f_this_numbers_5))))
set_option maxHeartbeats 4000000 in
set_option maxRecDepth 100000 in
theorem kX3_tell_ (l : Launch) (dC : Nat → ClassId) (dI : Nat → Nat → Nat) (cI cJ cB : ClassId) (h_this h_this_numbers : Nat) (N : Nat) (p1 : Int64) (p2 : Int64) (i_this : Int32) (f_this_numbers : Nat → Int64) (o_i_this : Int32) (o_f_this_numbers : Nat → Int64) (hf : fX3_tell_ N p1 p2 i_this f_this_numbers = some (o_i_this, o_f_this_numbers)) : MV l yX3_tell_ (kws yX3_tell_ cX3_tell_ 5 (none)) (kR 2 44) (dC, dI) (kT cI cJ cB) [.ref h_this, .long p1, .long p2] [cl_X3 h_this h_this_numbers i_this, (h_this_numbers, .inl (cJ, 8, .inr (.inl f_this_numbers)))] [cl_X3 h_this h_this_numbers o_i_this, (h_this_numbers, .inl (cJ, 8, .inr (.inl o_f_this_numbers)))] := by
  refine MV.of (cc := cX3_tell_) (maxL := 5) (by decide) (Nat.le_of_ble_eq_true rfl) (fun p e s m args below meth c A Q ls KC hN hK hP hD hA hl hEnd => ?_)
  obtain ⟨hx, hb, hml, hown, hts⟩ := KC
  have hown : s.vm.findClass "DateSpans$Row" = some m.cls := hown
  have hl : lv_has ls 5 [(0, .ref h_this), (1, .long p1), (3, .long p2)] := hl
  have hS : va_S A s.heap s.heap [] := va_S.rf
  have h := hf
  unfold fX3_tell_ at h
  refine lv_aload_n hx hb dX3_tell__0 rfl (lv_at hl 0 rfl) ?_
  refine lv_lload_n hx hb dX3_tell__1 rfl (lv_at hl 1 rfl) ?_
  obtain ⟨i_this_1, f_this_numbers_2, hc3, h⟩ := bd2_at h
  refine kjV (kV (own := "DateSpans$Row") (C := "DateSpans$Row") (b := h_this) (As := [.long p1]) (rest := []) ⟨hx, hb, hml, hown, hts⟩ (kX3_tell l dC dI cI cJ cB h_this h_this_numbers N p1 i_this f_this_numbers i_this_1 f_this_numbers_2 hc3 _) (kgV (kq q_422 rfl) (kq q_423 rfl) (kq q_424 rfl) (kq q_20 rfl) (kq q_425 rfl)) yd_X3_tell ⟨Nat.le_of_ble_eq_true rfl, Nat.le_of_ble_eq_true rfl⟩ hN hK hP hD [0, 1] rfl rfl (ci := 2) rfl rfl rfl rfl rfl hl.1 rfl (lv_room (Nat.le_of_ble_eq_true rfl)) dX3_tell__2) hP hD hS hA [0, 1] rfl rfl (fun H locs hP hD hS => ?_)
  have hP : va_P (dC, dI) vwCl [cl_X3 h_this h_this_numbers i_this_1, (h_this_numbers, .inl (cJ, 8, .inr (.inl f_this_numbers_2)))] H := hP
  have hD : va_D A [cl_X3 h_this h_this_numbers i_this_1, (h_this_numbers, .inl (cJ, 8, .inr (.inl f_this_numbers_2)))] := hD
  refine lv_aload_n hx hb dX3_tell__5 rfl (lv_at hl 0 rfl) ?_
  refine lv_lload_n hx hb dX3_tell__6 rfl (lv_at hl 2 rfl) ?_
  obtain ⟨i_this_4, f_this_numbers_5, hc6, h⟩ := bd2_at h
  refine kjV (kV (own := "DateSpans$Row") (C := "DateSpans$Row") (b := h_this) (As := [.long p2]) (rest := []) ⟨hx, hb, hml, hown, hts⟩ (kX3_push l dC dI cI cJ cB h_this h_this_numbers N p2 i_this_1 f_this_numbers_2 i_this_4 f_this_numbers_5 hc6 _) (kgV (kq q_430 rfl) (kq q_431 rfl) (kq q_432 rfl) (kq q_20 rfl) (kq q_433 rfl)) yd_X3_push ⟨Nat.le_of_ble_eq_true rfl, Nat.le_of_ble_eq_true rfl⟩ hN hK hP hD [0, 1] rfl rfl (ci := 2) rfl rfl rfl rfl rfl hl.1 rfl (lv_room (Nat.le_of_ble_eq_true rfl)) dX3_tell__7) hP hD hS hA [0, 1] rfl rfl (fun H locs hP hD hS => ?_)
  have hP : va_P (dC, dI) vwCl [cl_X3 h_this h_this_numbers i_this_4, (h_this_numbers, .inl (cJ, 8, .inr (.inl f_this_numbers_5)))] H := hP
  have hD : va_D A [cl_X3 h_this h_this_numbers i_this_4, (h_this_numbers, .inl (cJ, 8, .inr (.inl f_this_numbers_5)))] := hD
  obtain ⟨rfl, rfl⟩ := pj2 h
  exact hEnd _ _ _ _ hP hS dX3_tell__10
noncomputable def fX3_tell__ (N : Nat) (p1 : Int64) (p2 : Int64) (p3 : Int64) (i_this : Int32) (f_this_numbers : Nat → Int64) : Option (Int32 × (Nat → Int64)) := (bd2 (fX3_tell_ N p1 p2 i_this f_this_numbers) fun i_this_1 f_this_numbers_2 => (bd2 (fX3_push N p3 i_this_1 f_this_numbers_2) fun i_this_4 f_this_numbers_5 => (some (i_this_4, f_this_numbers_5))))
set_option maxHeartbeats 4000000 in
set_option maxRecDepth 100000 in
theorem kX3_tell__ (l : Launch) (dC : Nat → ClassId) (dI : Nat → Nat → Nat) (cI cJ cB : ClassId) (h_this h_this_numbers : Nat) (N : Nat) (p1 : Int64) (p2 : Int64) (p3 : Int64) (i_this : Int32) (f_this_numbers : Nat → Int64) (o_i_this : Int32) (o_f_this_numbers : Nat → Int64) (hf : fX3_tell__ N p1 p2 p3 i_this f_this_numbers = some (o_i_this, o_f_this_numbers)) : MV l yX3_tell__ (kws yX3_tell__ cX3_tell__ 7 (none)) (kR 3 68) (dC, dI) (kT cI cJ cB) [.ref h_this, .long p1, .long p2, .long p3] [cl_X3 h_this h_this_numbers i_this, (h_this_numbers, .inl (cJ, 8, .inr (.inl f_this_numbers)))] [cl_X3 h_this h_this_numbers o_i_this, (h_this_numbers, .inl (cJ, 8, .inr (.inl o_f_this_numbers)))] := by
  refine MV.of (cc := cX3_tell__) (maxL := 7) (by decide) (Nat.le_of_ble_eq_true rfl) (fun p e s m args below meth c A Q ls KC hN hK hP hD hA hl hEnd => ?_)
  obtain ⟨hx, hb, hml, hown, hts⟩ := KC
  have hown : s.vm.findClass "DateSpans$Row" = some m.cls := hown
  have hl : lv_has ls 7 [(0, .ref h_this), (1, .long p1), (3, .long p2), (5, .long p3)] := hl
  have hS : va_S A s.heap s.heap [] := va_S.rf
  have h := hf
  unfold fX3_tell__ at h
  refine lv_aload_n hx hb dX3_tell___0 rfl (lv_at hl 0 rfl) ?_
  refine lv_lload_n hx hb dX3_tell___1 rfl (lv_at hl 1 rfl) ?_
  refine lv_lload_n hx hb dX3_tell___2 rfl (lv_at hl 2 rfl) ?_
  obtain ⟨i_this_1, f_this_numbers_2, hc3, h⟩ := bd2_at h
  refine kjV (kV (own := "DateSpans$Row") (C := "DateSpans$Row") (b := h_this) (As := [.long p1, .long p2]) (rest := []) ⟨hx, hb, hml, hown, hts⟩ (kX3_tell_ l dC dI cI cJ cB h_this h_this_numbers N p1 p2 i_this f_this_numbers i_this_1 f_this_numbers_2 hc3 _) (kgV (kq q_469 rfl) (kq q_419 rfl) (kq q_420 rfl) (kq q_20 rfl) (kq q_421 rfl)) yd_X3_tell_ ⟨Nat.le_of_ble_eq_true rfl, Nat.le_of_ble_eq_true rfl⟩ hN hK hP hD [0, 1] rfl rfl (ci := 2) rfl rfl rfl rfl rfl hl.1 rfl (lv_room (Nat.le_of_ble_eq_true rfl)) dX3_tell___3) hP hD hS hA [0, 1] rfl rfl (fun H locs hP hD hS => ?_)
  have hP : va_P (dC, dI) vwCl [cl_X3 h_this h_this_numbers i_this_1, (h_this_numbers, .inl (cJ, 8, .inr (.inl f_this_numbers_2)))] H := hP
  have hD : va_D A [cl_X3 h_this h_this_numbers i_this_1, (h_this_numbers, .inl (cJ, 8, .inr (.inl f_this_numbers_2)))] := hD
  refine lv_aload_n hx hb dX3_tell___6 rfl (lv_at hl 0 rfl) ?_
  refine lv_lload hx hb dX3_tell___7 (lv_at hl 3 rfl) ?_
  obtain ⟨i_this_4, f_this_numbers_5, hc6, h⟩ := bd2_at h
  refine kjV (kV (own := "DateSpans$Row") (C := "DateSpans$Row") (b := h_this) (As := [.long p3]) (rest := []) ⟨hx, hb, hml, hown, hts⟩ (kX3_push l dC dI cI cJ cB h_this h_this_numbers N p3 i_this_1 f_this_numbers_2 i_this_4 f_this_numbers_5 hc6 _) (kgV (kq q_430 rfl) (kq q_431 rfl) (kq q_432 rfl) (kq q_20 rfl) (kq q_433 rfl)) yd_X3_push ⟨Nat.le_of_ble_eq_true rfl, Nat.le_of_ble_eq_true rfl⟩ hN hK hP hD [0, 1] rfl rfl (ci := 2) rfl rfl rfl rfl rfl hl.1 rfl (lv_room (Nat.le_of_ble_eq_true rfl)) dX3_tell___9) hP hD hS hA [0, 1] rfl rfl (fun H locs hP hD hS => ?_)
  have hP : va_P (dC, dI) vwCl [cl_X3 h_this h_this_numbers i_this_4, (h_this_numbers, .inl (cJ, 8, .inr (.inl f_this_numbers_5)))] H := hP
  have hD : va_D A [cl_X3 h_this h_this_numbers i_this_4, (h_this_numbers, .inl (cJ, 8, .inr (.inl f_this_numbers_5)))] := hD
  obtain ⟨rfl, rfl⟩ := pj2 h
  exact hEnd _ _ _ _ hP hS dX3_tell___12
noncomputable def fX9_comesToSpan (N : Nat) (p1 : Int32) (p2 : Int64) (p3 : Int64) (p4 : Int64) (i_this : Int32) (f_this_now_months : Nat → Int32) (f_this_now_days : Nat → Int32) (f_this_now_seconds : Nat → Int32) (i_this_told : Int32) (f_this_told_numbers : Nat → Int64) : Option (Int32 × (Nat → Int32) × (Nat → Int32) × (Nat → Int32) × Int32 × (Nat → Int64)) := (bd1 (fX9_areBounded N p2 p3 p4) fun r1 => (if r1 = (0 : Int32) then (some ((-9 : Int32), f_this_now_months, f_this_now_days, f_this_now_seconds, i_this_told, f_this_told_numbers)) else (bd3 (fX4_putSpan N p1 p2.toInt32 p3.toInt32 p4.toInt32 f_this_now_months f_this_now_days f_this_now_seconds) fun f_this_now_months_4 f_this_now_days_5 f_this_now_seconds_6 => (bd2 (fX3_tell__ N p2 p3 p4 i_this_told f_this_told_numbers) fun i_this_told_8 f_this_told_numbers_9 => (some (p2.toInt32, f_this_now_months_4, f_this_now_days_5, f_this_now_seconds_6, i_this_told_8, f_this_told_numbers_9))))))
set_option maxHeartbeats 4000000 in
set_option maxRecDepth 100000 in
theorem kX9_comesToSpan (l : Launch) (dC : Nat → ClassId) (dI : Nat → Nat → Nat) (cI cJ cB : ClassId) (h_this h_this_now h_this_kept h_this_told h_this_text h_this_script h_this_momentReader h_this_spanReader h_this_adder h_this_other h_this_trial h_this_ways h_this_now_day h_this_now_second h_this_now_months h_this_now_days h_this_now_seconds h_this_told_numbers : Nat) (N : Nat) (p1 : Int32) (p2 : Int64) (p3 : Int64) (p4 : Int64) (i_this : Int32) (f_this_now_months : Nat → Int32) (f_this_now_days : Nat → Int32) (f_this_now_seconds : Nat → Int32) (i_this_told : Int32) (f_this_told_numbers : Nat → Int64) (r : Int32) (o_f_this_now_months : Nat → Int32) (o_f_this_now_days : Nat → Int32) (o_f_this_now_seconds : Nat → Int32) (o_i_this_told : Int32) (o_f_this_told_numbers : Nat → Int64) (hf : fX9_comesToSpan N p1 p2 p3 p4 i_this f_this_now_months f_this_now_days f_this_now_seconds i_this_told f_this_told_numbers = some (r, o_f_this_now_months, o_f_this_now_days, o_f_this_now_seconds, o_i_this_told, o_f_this_told_numbers)) : MI l yX9_comesToSpan (kws yX9_comesToSpan cX9_comesToSpan 8 (some .int)) (kR 4 94) (dC, dI) (kT cI cJ cB) [.ref h_this, .int p1, .long p2, .long p3, .long p4] [cl_X9 h_this h_this_now h_this_kept h_this_told h_this_text h_this_script h_this_momentReader h_this_spanReader h_this_adder h_this_other h_this_trial h_this_ways i_this, cl_X4 h_this_now h_this_now_day h_this_now_second h_this_now_months h_this_now_days h_this_now_seconds, (h_this_now_months, .inl (cI, 8, .inl f_this_now_months)), (h_this_now_days, .inl (cI, 8, .inl f_this_now_days)), (h_this_now_seconds, .inl (cI, 8, .inl f_this_now_seconds)), cl_X3 h_this_told h_this_told_numbers i_this_told, (h_this_told_numbers, .inl (cJ, 8, .inr (.inl f_this_told_numbers)))] [cl_X9 h_this h_this_now h_this_kept h_this_told h_this_text h_this_script h_this_momentReader h_this_spanReader h_this_adder h_this_other h_this_trial h_this_ways i_this, cl_X4 h_this_now h_this_now_day h_this_now_second h_this_now_months h_this_now_days h_this_now_seconds, (h_this_now_months, .inl (cI, 8, .inl o_f_this_now_months)), (h_this_now_days, .inl (cI, 8, .inl o_f_this_now_days)), (h_this_now_seconds, .inl (cI, 8, .inl o_f_this_now_seconds)), cl_X3 h_this_told h_this_told_numbers o_i_this_told, (h_this_told_numbers, .inl (cJ, 8, .inr (.inl o_f_this_told_numbers)))] r := by
  refine MI.of (cc := cX9_comesToSpan) (maxL := 8) (by decide) (Nat.le_of_ble_eq_true rfl) (fun p e s m args below meth c A Q ls KC hN hK hP hD hA hl hEnd => ?_)
  obtain ⟨hx, hb, hml, hown, hts⟩ := KC
  have hown : s.vm.findClass "DateSpans" = some m.cls := hown
  have hl : lv_has ls 8 [(0, .ref h_this), (1, .int p1), (2, .long p2), (4, .long p3), (6, .long p4)] := hl
  have hS : va_S A s.heap s.heap [] := va_S.rf
  have h := hf
  unfold fX9_comesToSpan at h
  refine lv_lload_n hx hb dX9_comesToSpan_0 rfl (lv_at hl 2 rfl) ?_
  refine lv_lload hx hb dX9_comesToSpan_1 (lv_at hl 3 rfl) ?_
  refine lv_lload hx hb dX9_comesToSpan_3 (lv_at hl 4 rfl) ?_
  obtain ⟨r1, hc2, h⟩ := bd1_at h
  refine kjSI (kS0 (own := "DateSpans") (As := [.long p2, .long p3, .long p4]) (rest := []) ⟨hx, hb, hml, hown, hts⟩ (kX9_areBounded l N p2 p3 p4 r1 hc2) (kgS (kq q_288 rfl) (kq q_289 rfl) (kq q_18 rfl) (kq q_290 rfl)) yd_X9_areBounded ⟨Nat.le_of_ble_eq_true rfl, Nat.le_of_ble_eq_true rfl⟩ rfl rfl hl.1 rfl (lv_room (Nat.le_of_ble_eq_true rfl)) dX9_comesToSpan_5) ?_
  refine lv_if_ne (tgt := 14) hx hb dX9_comesToSpan_8 (by decide) (fun c3 => ?_) (fun c3 => ?_)
  · have h := ite_f c3 h
    refine lv_aload_n hx hb dX9_comesToSpan_14 rfl (lv_at hl 0 rfl) ?_
    refine va_get (D := (dC, dI)) (ci := 8) (v := .ref h_this_now) (C := RX9) (T := TX9) (N := 12) hx hb hts inX9 hown hK hP 0 rfl rfl 0 (by decide) (hts _ (kq q_226 rfl)) (fun _ h9 => h9) rfl dX9_comesToSpan_15 ?_
    refine lv_iload_n hx hb dX9_comesToSpan_18 rfl (lv_at hl 1 rfl) ?_
    refine lv_lload_n hx hb dX9_comesToSpan_19 rfl (lv_at hl 2 rfl) ?_
    refine lv_l2i hx hb dX9_comesToSpan_20 rfl ?_
    refine lv_lload hx hb dX9_comesToSpan_21 (lv_at hl 3 rfl) ?_
    refine lv_l2i hx hb dX9_comesToSpan_23 rfl ?_
    refine lv_lload hx hb dX9_comesToSpan_24 (lv_at hl 4 rfl) ?_
    refine lv_l2i hx hb dX9_comesToSpan_26 rfl ?_
    obtain ⟨f_this_now_months_4, f_this_now_days_5, f_this_now_seconds_6, hc7, h⟩ := bd3_at h
    refine kjV (kV (own := "DateSpans") (C := "DateSpans$Slots") (b := h_this_now) (As := [.int p1, .int p2.toInt32, .int p3.toInt32, .int p4.toInt32]) (rest := []) ⟨hx, hb, hml, hown, hts⟩ (kX4_putSpan l dC dI cI cJ cB h_this_now h_this_now_day h_this_now_second h_this_now_months h_this_now_days h_this_now_seconds N p1 p2.toInt32 p3.toInt32 p4.toInt32 f_this_now_months f_this_now_days f_this_now_seconds f_this_now_months_4 f_this_now_days_5 f_this_now_seconds_6 hc7 _) (kgV (kq q_296 rfl) (kq q_297 rfl) (kq q_298 rfl) (kq q_19 rfl) (kq q_299 rfl)) yd_X4_putSpan ⟨Nat.le_of_ble_eq_true rfl, Nat.le_of_ble_eq_true rfl⟩ hN hK hP hD [1, 2, 3, 4] rfl rfl (ci := 3) rfl rfl rfl rfl rfl hl.1 rfl (lv_room (Nat.le_of_ble_eq_true rfl)) dX9_comesToSpan_27) hP hD hS hA [1, 2, 3, 4] rfl rfl (fun H locs hP hD hS => ?_)
    have hP : va_P (dC, dI) vwCl [cl_X9 h_this h_this_now h_this_kept h_this_told h_this_text h_this_script h_this_momentReader h_this_spanReader h_this_adder h_this_other h_this_trial h_this_ways i_this, cl_X4 h_this_now h_this_now_day h_this_now_second h_this_now_months h_this_now_days h_this_now_seconds, (h_this_now_months, .inl (cI, 8, .inl f_this_now_months_4)), (h_this_now_days, .inl (cI, 8, .inl f_this_now_days_5)), (h_this_now_seconds, .inl (cI, 8, .inl f_this_now_seconds_6)), cl_X3 h_this_told h_this_told_numbers i_this_told, (h_this_told_numbers, .inl (cJ, 8, .inr (.inl f_this_told_numbers)))] H := hP
    have hD : va_D A [cl_X9 h_this h_this_now h_this_kept h_this_told h_this_text h_this_script h_this_momentReader h_this_spanReader h_this_adder h_this_other h_this_trial h_this_ways i_this, cl_X4 h_this_now h_this_now_day h_this_now_second h_this_now_months h_this_now_days h_this_now_seconds, (h_this_now_months, .inl (cI, 8, .inl f_this_now_months_4)), (h_this_now_days, .inl (cI, 8, .inl f_this_now_days_5)), (h_this_now_seconds, .inl (cI, 8, .inl f_this_now_seconds_6)), cl_X3 h_this_told h_this_told_numbers i_this_told, (h_this_told_numbers, .inl (cJ, 8, .inr (.inl f_this_told_numbers)))] := hD
    refine lv_aload_n hx hb dX9_comesToSpan_30 rfl (lv_at hl 0 rfl) ?_
    refine va_get (D := (dC, dI)) (ci := 8) (v := .ref h_this_told) (C := RX9) (T := TX9) (N := 12) hx hb hts inX9 hown hK hP 0 rfl rfl 3 (by decide) (hts _ (kq q_229 rfl)) (fun _ h9 => h9) rfl dX9_comesToSpan_31 ?_
    refine lv_lload_n hx hb dX9_comesToSpan_34 rfl (lv_at hl 2 rfl) ?_
    refine lv_lload hx hb dX9_comesToSpan_35 (lv_at hl 3 rfl) ?_
    refine lv_lload hx hb dX9_comesToSpan_37 (lv_at hl 4 rfl) ?_
    obtain ⟨i_this_told_8, f_this_told_numbers_9, hc10, h⟩ := bd2_at h
    refine kjV (kV (own := "DateSpans") (C := "DateSpans$Row") (b := h_this_told) (As := [.long p2, .long p3, .long p4]) (rest := []) ⟨hx, hb, hml, hown, hts⟩ (kX3_tell__ l dC dI cI cJ cB h_this_told h_this_told_numbers N p2 p3 p4 i_this_told f_this_told_numbers i_this_told_8 f_this_told_numbers_9 hc10 _) (kgV (kq q_465 rfl) (kq q_466 rfl) (kq q_467 rfl) (kq q_20 rfl) (kq q_468 rfl)) yd_X3_tell__ ⟨Nat.le_of_ble_eq_true rfl, Nat.le_of_ble_eq_true rfl⟩ hN hK hP hD [5, 6] rfl rfl (ci := 2) rfl rfl rfl rfl rfl hl.1 rfl (lv_room (Nat.le_of_ble_eq_true rfl)) dX9_comesToSpan_39) hP hD hS hA [5, 6] rfl rfl (fun H locs hP hD hS => ?_)
    have hP : va_P (dC, dI) vwCl [cl_X9 h_this h_this_now h_this_kept h_this_told h_this_text h_this_script h_this_momentReader h_this_spanReader h_this_adder h_this_other h_this_trial h_this_ways i_this, cl_X4 h_this_now h_this_now_day h_this_now_second h_this_now_months h_this_now_days h_this_now_seconds, (h_this_now_months, .inl (cI, 8, .inl f_this_now_months_4)), (h_this_now_days, .inl (cI, 8, .inl f_this_now_days_5)), (h_this_now_seconds, .inl (cI, 8, .inl f_this_now_seconds_6)), cl_X3 h_this_told h_this_told_numbers i_this_told_8, (h_this_told_numbers, .inl (cJ, 8, .inr (.inl f_this_told_numbers_9)))] H := hP
    have hD : va_D A [cl_X9 h_this h_this_now h_this_kept h_this_told h_this_text h_this_script h_this_momentReader h_this_spanReader h_this_adder h_this_other h_this_trial h_this_ways i_this, cl_X4 h_this_now h_this_now_day h_this_now_second h_this_now_months h_this_now_days h_this_now_seconds, (h_this_now_months, .inl (cI, 8, .inl f_this_now_months_4)), (h_this_now_days, .inl (cI, 8, .inl f_this_now_days_5)), (h_this_now_seconds, .inl (cI, 8, .inl f_this_now_seconds_6)), cl_X3 h_this_told h_this_told_numbers i_this_told_8, (h_this_told_numbers, .inl (cJ, 8, .inr (.inl f_this_told_numbers_9)))] := hD
    refine lv_lload_n hx hb dX9_comesToSpan_42 rfl (lv_at hl 2 rfl) ?_
    refine lv_l2i hx hb dX9_comesToSpan_43 rfl ?_
    obtain ⟨rfl, rfl, rfl, rfl, rfl, rfl⟩ := pj6 h
    exact hEnd _ _ _ _ hP hS dX9_comesToSpan_44 rfl
  have h := ite_t c3 h
  refine lv_bipush (v := (-9 : Int32)) hx hb dX9_comesToSpan_11 (by decide) ?_
  obtain ⟨rfl, rfl, rfl, rfl, rfl, rfl⟩ := pj6 h
  exact hEnd _ _ _ _ hP hS dX9_comesToSpan_13 rfl
noncomputable def fX9_span (N : Nat) (p1 : Int32) (i_this : Int32) (f_this_now_months : Nat → Int32) (f_this_now_days : Nat → Int32) (f_this_now_seconds : Nat → Int32) (i_this_told : Int32) (f_this_told_numbers : Nat → Int64) (i_this_text : Int32) (f_this_text_signs : Nat → Int32) (i_this_spanReader : Nat → Int32) : Option (Int32 × (Nat → Int32) × (Nat → Int32) × (Nat → Int32) × Int32 × (Nat → Int64) × Int32 × (Nat → Int32)) := (bd2 (fX5_wrongAt N i_this_spanReader i_this_text f_this_text_signs) fun r1 i_this_spanReader_2 => (bd1 (fX6_cut N (0 : Int32) i_this_text) fun i_this_text_4 => (if r1 = (-1 : Int32) then (bd1 (fX9_isSlot N p1) fun r7 => (if r7 = (0 : Int32) then (some ((-1 : Int32), f_this_now_months, f_this_now_days, f_this_now_seconds, i_this_told, f_this_told_numbers, i_this_text_4, i_this_spanReader_2)) else (bd6 (fX9_comesToSpan N p1 ((i_this_spanReader_2 0).toInt64) ((i_this_spanReader_2 1).toInt64) ((i_this_spanReader_2 2).toInt64) i_this f_this_now_months f_this_now_days f_this_now_seconds i_this_told f_this_told_numbers) fun r10 f_this_now_months_11 f_this_now_days_12 f_this_now_seconds_13 i_this_told_14 f_this_told_numbers_15 => (some (r10, f_this_now_months_11, f_this_now_days_12, f_this_now_seconds_13, i_this_told_14, f_this_told_numbers_15, i_this_text_4, i_this_spanReader_2))))) else (some (((-21 : Int32) - r1), f_this_now_months, f_this_now_days, f_this_now_seconds, i_this_told, f_this_told_numbers, i_this_text_4, i_this_spanReader_2)))))
set_option maxHeartbeats 4000000 in
set_option maxRecDepth 100000 in
theorem kX9_span (l : Launch) (dC : Nat → ClassId) (dI : Nat → Nat → Nat) (cI cJ cB : ClassId) (h_this h_this_now h_this_kept h_this_told h_this_text h_this_script h_this_momentReader h_this_spanReader h_this_adder h_this_other h_this_trial h_this_ways h_this_now_day h_this_now_second h_this_now_months h_this_now_days h_this_now_seconds h_this_told_numbers h_this_text_signs : Nat) (N : Nat) (p1 : Int32) (i_this : Int32) (f_this_now_months : Nat → Int32) (f_this_now_days : Nat → Int32) (f_this_now_seconds : Nat → Int32) (i_this_told : Int32) (f_this_told_numbers : Nat → Int64) (i_this_text : Int32) (f_this_text_signs : Nat → Int32) (i_this_spanReader : Nat → Int32) (r : Int32) (o_f_this_now_months : Nat → Int32) (o_f_this_now_days : Nat → Int32) (o_f_this_now_seconds : Nat → Int32) (o_i_this_told : Int32) (o_f_this_told_numbers : Nat → Int64) (o_i_this_text : Int32) (o_i_this_spanReader : Nat → Int32) (hf : fX9_span N p1 i_this f_this_now_months f_this_now_days f_this_now_seconds i_this_told f_this_told_numbers i_this_text f_this_text_signs i_this_spanReader = some (r, o_f_this_now_months, o_f_this_now_days, o_f_this_now_seconds, o_i_this_told, o_f_this_told_numbers, o_i_this_text, o_i_this_spanReader)) : MI l yX9_span (kws yX9_span cX9_span 3 (some .int)) (kR 5 121) (dC, dI) (kT cI cJ cB) [.ref h_this, .int p1] [cl_X9 h_this h_this_now h_this_kept h_this_told h_this_text h_this_script h_this_momentReader h_this_spanReader h_this_adder h_this_other h_this_trial h_this_ways i_this, cl_X4 h_this_now h_this_now_day h_this_now_second h_this_now_months h_this_now_days h_this_now_seconds, (h_this_now_months, .inl (cI, 8, .inl f_this_now_months)), (h_this_now_days, .inl (cI, 8, .inl f_this_now_days)), (h_this_now_seconds, .inl (cI, 8, .inl f_this_now_seconds)), cl_X3 h_this_told h_this_told_numbers i_this_told, (h_this_told_numbers, .inl (cJ, 8, .inr (.inl f_this_told_numbers))), cl_X6 h_this_text h_this_text_signs i_this_text, (h_this_text_signs, .inl (cI, 100, .inl f_this_text_signs)), cl_X5 h_this_spanReader i_this_spanReader] [cl_X9 h_this h_this_now h_this_kept h_this_told h_this_text h_this_script h_this_momentReader h_this_spanReader h_this_adder h_this_other h_this_trial h_this_ways i_this, cl_X4 h_this_now h_this_now_day h_this_now_second h_this_now_months h_this_now_days h_this_now_seconds, (h_this_now_months, .inl (cI, 8, .inl o_f_this_now_months)), (h_this_now_days, .inl (cI, 8, .inl o_f_this_now_days)), (h_this_now_seconds, .inl (cI, 8, .inl o_f_this_now_seconds)), cl_X3 h_this_told h_this_told_numbers o_i_this_told, (h_this_told_numbers, .inl (cJ, 8, .inr (.inl o_f_this_told_numbers))), cl_X6 h_this_text h_this_text_signs o_i_this_text, (h_this_text_signs, .inl (cI, 100, .inl f_this_text_signs)), cl_X5 h_this_spanReader o_i_this_spanReader] r := by
  refine MI.of (cc := cX9_span) (maxL := 3) (by decide) (Nat.le_of_ble_eq_true rfl) (fun p e s m args below meth c A Q ls KC hN hK hP hD hA hl hEnd => ?_)
  obtain ⟨hx, hb, hml, hown, hts⟩ := KC
  have hown : s.vm.findClass "DateSpans" = some m.cls := hown
  have hl : lv_has ls 3 [(0, .ref h_this), (1, .int p1)] := hl
  have hS : va_S A s.heap s.heap [] := va_S.rf
  have h := hf
  unfold fX9_span at h
  refine lv_aload_n hx hb dX9_span_0 rfl (lv_at hl 0 rfl) ?_
  refine va_get (D := (dC, dI)) (ci := 8) (v := .ref h_this_spanReader) (C := RX9) (T := TX9) (N := 12) hx hb hts inX9 hown hK hP 0 rfl rfl 7 (by decide) (hts _ (kq q_233 rfl)) (fun _ h9 => h9) rfl dX9_span_1 ?_
  refine lv_aload_n hx hb dX9_span_4 rfl (lv_at hl 0 rfl) ?_
  refine va_get (D := (dC, dI)) (ci := 8) (v := .ref h_this_text) (C := RX9) (T := TX9) (N := 12) hx hb hts inX9 hown hK hP 0 rfl rfl 4 (by decide) (hts _ (kq q_230 rfl)) (fun _ h9 => h9) rfl dX9_span_5 ?_
  obtain ⟨r1, i_this_spanReader_2, hc3, h⟩ := bd2_at h
  refine kjI (kV (own := "DateSpans") (C := "DateSpans$SpanReader") (b := h_this_spanReader) (As := [.ref h_this_text]) (rest := []) ⟨hx, hb, hml, hown, hts⟩ (kX5_wrongAt l dC dI cI cJ cB h_this_spanReader h_this_text h_this_text_signs N i_this_spanReader i_this_text f_this_text_signs r1 i_this_spanReader_2 hc3 _) (kgV (kq q_788 rfl) (kq q_789 rfl) (kq q_790 rfl) (kq q_23 rfl) (kq q_791 rfl)) yd_X5_wrongAt ⟨Nat.le_of_ble_eq_true rfl, Nat.le_of_ble_eq_true rfl⟩ hN hK hP hD [9, 7, 8] rfl rfl (ci := 4) rfl rfl rfl rfl rfl hl.1 rfl (lv_room (Nat.le_of_ble_eq_true rfl)) dX9_span_8) hP hD hS hA [9, 7, 8] rfl rfl (fun H locs hP hD hS => ?_)
  have hP : va_P (dC, dI) vwCl [cl_X9 h_this h_this_now h_this_kept h_this_told h_this_text h_this_script h_this_momentReader h_this_spanReader h_this_adder h_this_other h_this_trial h_this_ways i_this, cl_X4 h_this_now h_this_now_day h_this_now_second h_this_now_months h_this_now_days h_this_now_seconds, (h_this_now_months, .inl (cI, 8, .inl f_this_now_months)), (h_this_now_days, .inl (cI, 8, .inl f_this_now_days)), (h_this_now_seconds, .inl (cI, 8, .inl f_this_now_seconds)), cl_X3 h_this_told h_this_told_numbers i_this_told, (h_this_told_numbers, .inl (cJ, 8, .inr (.inl f_this_told_numbers))), cl_X6 h_this_text h_this_text_signs i_this_text, (h_this_text_signs, .inl (cI, 100, .inl f_this_text_signs)), cl_X5 h_this_spanReader i_this_spanReader_2] H := hP
  have hD : va_D A [cl_X9 h_this h_this_now h_this_kept h_this_told h_this_text h_this_script h_this_momentReader h_this_spanReader h_this_adder h_this_other h_this_trial h_this_ways i_this, cl_X4 h_this_now h_this_now_day h_this_now_second h_this_now_months h_this_now_days h_this_now_seconds, (h_this_now_months, .inl (cI, 8, .inl f_this_now_months)), (h_this_now_days, .inl (cI, 8, .inl f_this_now_days)), (h_this_now_seconds, .inl (cI, 8, .inl f_this_now_seconds)), cl_X3 h_this_told h_this_told_numbers i_this_told, (h_this_told_numbers, .inl (cJ, 8, .inr (.inl f_this_told_numbers))), cl_X6 h_this_text h_this_text_signs i_this_text, (h_this_text_signs, .inl (cI, 100, .inl f_this_text_signs)), cl_X5 h_this_spanReader i_this_spanReader_2] := hD
  refine lv_istore_n (lv' := [(2, .int r1), (0, .ref h_this), (1, .int p1)]) hx hb dX9_span_11 rfl hl (by decide) rfl (fun ls hl => ?_)
  refine lv_aload_n hx hb dX9_span_12 rfl (lv_at hl 1 rfl) ?_
  refine va_get (D := (dC, dI)) (ci := 8) (v := .ref h_this_text) (C := RX9) (T := TX9) (N := 12) hx hb hts inX9 hown hK hP 0 rfl rfl 4 (by decide) (hts _ (kq q_230 rfl)) (fun _ h9 => h9) rfl dX9_span_13 ?_
  refine lv_iconst (v := (0 : Int32)) hx hb dX9_span_16 (by decide) ?_
  obtain ⟨i_this_text_4, hc5, h⟩ := bd1_at h
  refine kjV (kV (own := "DateSpans") (C := "DateSpans$Text") (b := h_this_text) (As := [.int (0 : Int32)]) (rest := []) ⟨hx, hb, hml, hown, hts⟩ (kX6_cut l dC dI cI cJ cB h_this_text h_this_text_signs N (0 : Int32) i_this_text i_this_text_4 hc5 _) (kgV (kq q_698 rfl) (kq q_699 rfl) (kq q_700 rfl) (kq q_21 rfl) (kq q_701 rfl)) yd_X6_cut ⟨Nat.le_of_ble_eq_true rfl, Nat.le_of_ble_eq_true rfl⟩ hN hK hP hD [7] rfl rfl (ci := 5) rfl rfl rfl rfl rfl hl.1 rfl (lv_room (Nat.le_of_ble_eq_true rfl)) dX9_span_17) hP hD hS hA [7] rfl rfl (fun H locs hP hD hS => ?_)
  have hP : va_P (dC, dI) vwCl [cl_X9 h_this h_this_now h_this_kept h_this_told h_this_text h_this_script h_this_momentReader h_this_spanReader h_this_adder h_this_other h_this_trial h_this_ways i_this, cl_X4 h_this_now h_this_now_day h_this_now_second h_this_now_months h_this_now_days h_this_now_seconds, (h_this_now_months, .inl (cI, 8, .inl f_this_now_months)), (h_this_now_days, .inl (cI, 8, .inl f_this_now_days)), (h_this_now_seconds, .inl (cI, 8, .inl f_this_now_seconds)), cl_X3 h_this_told h_this_told_numbers i_this_told, (h_this_told_numbers, .inl (cJ, 8, .inr (.inl f_this_told_numbers))), cl_X6 h_this_text h_this_text_signs i_this_text_4, (h_this_text_signs, .inl (cI, 100, .inl f_this_text_signs)), cl_X5 h_this_spanReader i_this_spanReader_2] H := hP
  have hD : va_D A [cl_X9 h_this h_this_now h_this_kept h_this_told h_this_text h_this_script h_this_momentReader h_this_spanReader h_this_adder h_this_other h_this_trial h_this_ways i_this, cl_X4 h_this_now h_this_now_day h_this_now_second h_this_now_months h_this_now_days h_this_now_seconds, (h_this_now_months, .inl (cI, 8, .inl f_this_now_months)), (h_this_now_days, .inl (cI, 8, .inl f_this_now_days)), (h_this_now_seconds, .inl (cI, 8, .inl f_this_now_seconds)), cl_X3 h_this_told h_this_told_numbers i_this_told, (h_this_told_numbers, .inl (cJ, 8, .inr (.inl f_this_told_numbers))), cl_X6 h_this_text h_this_text_signs i_this_text_4, (h_this_text_signs, .inl (cI, 100, .inl f_this_text_signs)), cl_X5 h_this_spanReader i_this_spanReader_2] := hD
  refine lv_iload_n hx hb dX9_span_20 rfl (lv_at hl 0 rfl) ?_
  refine lv_iconst (v := (-1 : Int32)) hx hb dX9_span_21 (by decide) ?_
  refine lv_icmp_eq (tgt := 30) hx hb dX9_span_22 (by decide) (fun c6 => ?_) (fun c6 => ?_)
  · have h := ite_t c6 h
    refine lv_iload_n hx hb dX9_span_30 rfl (lv_at hl 2 rfl) ?_
    obtain ⟨r7, hc8, h⟩ := bd1_at h
    refine kjSI (kS0 (own := "DateSpans") (As := [.int p1]) (rest := []) ⟨hx, hb, hml, hown, hts⟩ (kX9_isSlot l N p1 r7 hc8) (kgS (kq q_267 rfl) (kq q_268 rfl) (kq q_18 rfl) (kq q_269 rfl)) yd_X9_isSlot ⟨Nat.le_of_ble_eq_true rfl, Nat.le_of_ble_eq_true rfl⟩ rfl rfl hl.1 rfl (lv_room (Nat.le_of_ble_eq_true rfl)) dX9_span_31) ?_
    refine lv_if_ne (tgt := 39) hx hb dX9_span_34 (by decide) (fun c9 => ?_) (fun c9 => ?_)
    · have h := ite_f c9 h
      refine lv_aload_n hx hb dX9_span_39 rfl (lv_at hl 1 rfl) ?_
      refine lv_iload_n hx hb dX9_span_40 rfl (lv_at hl 2 rfl) ?_
      refine lv_aload_n hx hb dX9_span_41 rfl (lv_at hl 1 rfl) ?_
      refine va_get (D := (dC, dI)) (ci := 8) (v := .ref h_this_spanReader) (C := RX9) (T := TX9) (N := 12) hx hb hts inX9 hown hK hP 0 rfl rfl 7 (by decide) (hts _ (kq q_233 rfl)) (fun _ h9 => h9) rfl dX9_span_42 ?_
      refine va_getN (D := (dC, dI)) (ci := 4) (v := .int (i_this_spanReader_2 0)) (C := RX5) (T := TX5) (N := 3) hx hb hts inX5 hown hK hP 9 rfl rfl 0 (by decide) (kN.use hN q_122 rfl) (fun _ h9 => h9) rfl dX9_span_45 ?_
      refine lv_i2l hx hb dX9_span_48 rfl ?_
      refine lv_aload_n hx hb dX9_span_49 rfl (lv_at hl 1 rfl) ?_
      refine va_get (D := (dC, dI)) (ci := 8) (v := .ref h_this_spanReader) (C := RX9) (T := TX9) (N := 12) hx hb hts inX9 hown hK hP 0 rfl rfl 7 (by decide) (hts _ (kq q_233 rfl)) (fun _ h9 => h9) rfl dX9_span_50 ?_
      refine va_getN (D := (dC, dI)) (ci := 4) (v := .int (i_this_spanReader_2 1)) (C := RX5) (T := TX5) (N := 3) hx hb hts inX5 hown hK hP 9 rfl rfl 1 (by decide) (kN.use hN q_124 rfl) (fun _ h9 => h9) rfl dX9_span_53 ?_
      refine lv_i2l hx hb dX9_span_56 rfl ?_
      refine lv_aload_n hx hb dX9_span_57 rfl (lv_at hl 1 rfl) ?_
      refine va_get (D := (dC, dI)) (ci := 8) (v := .ref h_this_spanReader) (C := RX9) (T := TX9) (N := 12) hx hb hts inX9 hown hK hP 0 rfl rfl 7 (by decide) (hts _ (kq q_233 rfl)) (fun _ h9 => h9) rfl dX9_span_58 ?_
      refine va_getN (D := (dC, dI)) (ci := 4) (v := .int (i_this_spanReader_2 2)) (C := RX5) (T := TX5) (N := 3) hx hb hts inX5 hown hK hP 9 rfl rfl 2 (by decide) (kN.use hN q_126 rfl) (fun _ h9 => h9) rfl dX9_span_61 ?_
      refine lv_i2l hx hb dX9_span_64 rfl ?_
      obtain ⟨r10, f_this_now_months_11, f_this_now_days_12, f_this_now_seconds_13, i_this_told_14, f_this_told_numbers_15, hc16, h⟩ := bd6_at h
      refine kjI (kV (own := "DateSpans") (C := "DateSpans") (b := h_this) (As := [.int p1, .long ((i_this_spanReader_2 0).toInt64), .long ((i_this_spanReader_2 1).toInt64), .long ((i_this_spanReader_2 2).toInt64)]) (rest := []) ⟨hx, hb, hml, hown, hts⟩ (kX9_comesToSpan l dC dI cI cJ cB h_this h_this_now h_this_kept h_this_told h_this_text h_this_script h_this_momentReader h_this_spanReader h_this_adder h_this_other h_this_trial h_this_ways h_this_now_day h_this_now_second h_this_now_months h_this_now_days h_this_now_seconds h_this_told_numbers N p1 ((i_this_spanReader_2 0).toInt64) ((i_this_spanReader_2 1).toInt64) ((i_this_spanReader_2 2).toInt64) i_this f_this_now_months f_this_now_days f_this_now_seconds i_this_told f_this_told_numbers r10 f_this_now_months_11 f_this_now_days_12 f_this_now_seconds_13 i_this_told_14 f_this_told_numbers_15 hc16 _) (kgV (kq q_461 rfl) (kq q_463 rfl) (kq q_5 rfl) (kq q_18 rfl) (kq q_464 rfl)) yd_X9_comesToSpan ⟨Nat.le_of_ble_eq_true rfl, Nat.le_of_ble_eq_true rfl⟩ hN hK hP hD [0, 1, 2, 3, 4, 5, 6] rfl rfl (ci := 8) rfl rfl rfl rfl rfl hl.1 rfl (lv_room (Nat.le_of_ble_eq_true rfl)) dX9_span_65) hP hD hS hA [0, 1, 2, 3, 4, 5, 6] rfl rfl (fun H locs hP hD hS => ?_)
      have hP : va_P (dC, dI) vwCl [cl_X9 h_this h_this_now h_this_kept h_this_told h_this_text h_this_script h_this_momentReader h_this_spanReader h_this_adder h_this_other h_this_trial h_this_ways i_this, cl_X4 h_this_now h_this_now_day h_this_now_second h_this_now_months h_this_now_days h_this_now_seconds, (h_this_now_months, .inl (cI, 8, .inl f_this_now_months_11)), (h_this_now_days, .inl (cI, 8, .inl f_this_now_days_12)), (h_this_now_seconds, .inl (cI, 8, .inl f_this_now_seconds_13)), cl_X3 h_this_told h_this_told_numbers i_this_told_14, (h_this_told_numbers, .inl (cJ, 8, .inr (.inl f_this_told_numbers_15))), cl_X6 h_this_text h_this_text_signs i_this_text_4, (h_this_text_signs, .inl (cI, 100, .inl f_this_text_signs)), cl_X5 h_this_spanReader i_this_spanReader_2] H := hP
      have hD : va_D A [cl_X9 h_this h_this_now h_this_kept h_this_told h_this_text h_this_script h_this_momentReader h_this_spanReader h_this_adder h_this_other h_this_trial h_this_ways i_this, cl_X4 h_this_now h_this_now_day h_this_now_second h_this_now_months h_this_now_days h_this_now_seconds, (h_this_now_months, .inl (cI, 8, .inl f_this_now_months_11)), (h_this_now_days, .inl (cI, 8, .inl f_this_now_days_12)), (h_this_now_seconds, .inl (cI, 8, .inl f_this_now_seconds_13)), cl_X3 h_this_told h_this_told_numbers i_this_told_14, (h_this_told_numbers, .inl (cJ, 8, .inr (.inl f_this_told_numbers_15))), cl_X6 h_this_text h_this_text_signs i_this_text_4, (h_this_text_signs, .inl (cI, 100, .inl f_this_text_signs)), cl_X5 h_this_spanReader i_this_spanReader_2] := hD
      obtain ⟨rfl, rfl, rfl, rfl, rfl, rfl, rfl, rfl⟩ := pj8 h
      exact hEnd _ _ _ _ hP hS dX9_span_68 rfl
    have h := ite_t c9 h
    refine lv_iconst (v := (-1 : Int32)) hx hb dX9_span_37 (by decide) ?_
    obtain ⟨rfl, rfl, rfl, rfl, rfl, rfl, rfl, rfl⟩ := pj8 h
    exact hEnd _ _ _ _ hP hS dX9_span_38 rfl
  have h := ite_f c6 h
  refine lv_bipush (v := (-21 : Int32)) hx hb dX9_span_25 (by decide) ?_
  refine lv_iload_n hx hb dX9_span_27 rfl (lv_at hl 0 rfl) ?_
  refine lv_isub hx hb dX9_span_28 ?_
  obtain ⟨rfl, rfl, rfl, rfl, rfl, rfl, rfl, rfl⟩ := pj8 h
  exact hEnd _ _ _ _ hP hS dX9_span_29 rfl
noncomputable def fX9_parts (N : Nat) (p1 : Int32) (p2 : Int32) (p3 : Int32) (p4 : Int32) (i_this : Int32) (f_this_now_months : Nat → Int32) (f_this_now_days : Nat → Int32) (f_this_now_seconds : Nat → Int32) : Option (Int32 × (Nat → Int32) × (Nat → Int32) × (Nat → Int32)) := (bd1 (fX9_isSlot N p1) fun r1 => (if r1 = (0 : Int32) then (some ((0 : Int32), f_this_now_months, f_this_now_days, f_this_now_seconds)) else (bd1 (fX9_areBounded N p2.toInt64 p3.toInt64 p4.toInt64) fun r4 => (if r4 = (0 : Int32) then (some ((0 : Int32), f_this_now_months, f_this_now_days, f_this_now_seconds)) else (bd3 (fX4_putSpan N p1 p2 p3 p4 f_this_now_months f_this_now_days f_this_now_seconds) fun f_this_now_months_7 f_this_now_days_8 f_this_now_seconds_9 => (some ((1 : Int32), f_this_now_months_7, f_this_now_days_8, f_this_now_seconds_9)))))))
set_option maxHeartbeats 4000000 in
set_option maxRecDepth 100000 in
theorem kX9_parts (l : Launch) (dC : Nat → ClassId) (dI : Nat → Nat → Nat) (cI cJ cB : ClassId) (h_this h_this_now h_this_kept h_this_told h_this_text h_this_script h_this_momentReader h_this_spanReader h_this_adder h_this_other h_this_trial h_this_ways h_this_now_day h_this_now_second h_this_now_months h_this_now_days h_this_now_seconds : Nat) (N : Nat) (p1 : Int32) (p2 : Int32) (p3 : Int32) (p4 : Int32) (i_this : Int32) (f_this_now_months : Nat → Int32) (f_this_now_days : Nat → Int32) (f_this_now_seconds : Nat → Int32) (r : Int32) (o_f_this_now_months : Nat → Int32) (o_f_this_now_days : Nat → Int32) (o_f_this_now_seconds : Nat → Int32) (hf : fX9_parts N p1 p2 p3 p4 i_this f_this_now_months f_this_now_days f_this_now_seconds = some (r, o_f_this_now_months, o_f_this_now_days, o_f_this_now_seconds)) : MI l yX9_parts (kws yX9_parts cX9_parts 5 (some .boolean)) (kR 2 46) (dC, dI) (kT cI cJ cB) [.ref h_this, .int p1, .int p2, .int p3, .int p4] [cl_X9 h_this h_this_now h_this_kept h_this_told h_this_text h_this_script h_this_momentReader h_this_spanReader h_this_adder h_this_other h_this_trial h_this_ways i_this, cl_X4 h_this_now h_this_now_day h_this_now_second h_this_now_months h_this_now_days h_this_now_seconds, (h_this_now_months, .inl (cI, 8, .inl f_this_now_months)), (h_this_now_days, .inl (cI, 8, .inl f_this_now_days)), (h_this_now_seconds, .inl (cI, 8, .inl f_this_now_seconds))] [cl_X9 h_this h_this_now h_this_kept h_this_told h_this_text h_this_script h_this_momentReader h_this_spanReader h_this_adder h_this_other h_this_trial h_this_ways i_this, cl_X4 h_this_now h_this_now_day h_this_now_second h_this_now_months h_this_now_days h_this_now_seconds, (h_this_now_months, .inl (cI, 8, .inl o_f_this_now_months)), (h_this_now_days, .inl (cI, 8, .inl o_f_this_now_days)), (h_this_now_seconds, .inl (cI, 8, .inl o_f_this_now_seconds))] r := by
  refine MI.of (cc := cX9_parts) (maxL := 5) (by decide) (Nat.le_of_ble_eq_true rfl) (fun p e s m args below meth c A Q ls KC hN hK hP hD hA hl hEnd => ?_)
  obtain ⟨hx, hb, hml, hown, hts⟩ := KC
  have hown : s.vm.findClass "DateSpans" = some m.cls := hown
  have hl : lv_has ls 5 [(0, .ref h_this), (1, .int p1), (2, .int p2), (3, .int p3), (4, .int p4)] := hl
  have hS : va_S A s.heap s.heap [] := va_S.rf
  have h := hf
  unfold fX9_parts at h
  refine lv_iload_n hx hb dX9_parts_0 rfl (lv_at hl 1 rfl) ?_
  obtain ⟨r1, hc2, h⟩ := bd1_at h
  refine kjSI (kS0 (own := "DateSpans") (As := [.int p1]) (rest := []) ⟨hx, hb, hml, hown, hts⟩ (kX9_isSlot l N p1 r1 hc2) (kgS (kq q_267 rfl) (kq q_268 rfl) (kq q_18 rfl) (kq q_269 rfl)) yd_X9_isSlot ⟨Nat.le_of_ble_eq_true rfl, Nat.le_of_ble_eq_true rfl⟩ rfl rfl hl.1 rfl (lv_room (Nat.le_of_ble_eq_true rfl)) dX9_parts_1) ?_
  refine lv_if_eq (tgt := 20) hx hb dX9_parts_4 (by decide) (fun c3 => ?_) (fun c3 => ?_)
  · have h := ite_t c3 h
    refine lv_iconst (v := (0 : Int32)) hx hb dX9_parts_20 (by decide) ?_
    obtain ⟨rfl, rfl, rfl, rfl⟩ := pj4 h
    exact hEnd _ _ _ _ hP hS dX9_parts_21 rfl
  have h := ite_f c3 h
  refine lv_iload_n hx hb dX9_parts_7 rfl (lv_at hl 2 rfl) ?_
  refine lv_i2l hx hb dX9_parts_8 rfl ?_
  refine lv_iload_n hx hb dX9_parts_9 rfl (lv_at hl 3 rfl) ?_
  refine lv_i2l hx hb dX9_parts_10 rfl ?_
  refine lv_iload hx hb dX9_parts_11 (lv_at hl 4 rfl) ?_
  refine lv_i2l hx hb dX9_parts_13 rfl ?_
  obtain ⟨r4, hc5, h⟩ := bd1_at h
  refine kjSI (kS0 (own := "DateSpans") (As := [.long p2.toInt64, .long p3.toInt64, .long p4.toInt64]) (rest := []) ⟨hx, hb, hml, hown, hts⟩ (kX9_areBounded l N p2.toInt64 p3.toInt64 p4.toInt64 r4 hc5) (kgS (kq q_288 rfl) (kq q_289 rfl) (kq q_18 rfl) (kq q_290 rfl)) yd_X9_areBounded ⟨Nat.le_of_ble_eq_true rfl, Nat.le_of_ble_eq_true rfl⟩ rfl rfl hl.1 rfl (lv_room (Nat.le_of_ble_eq_true rfl)) dX9_parts_14) ?_
  refine lv_if_ne (tgt := 22) hx hb dX9_parts_17 (by decide) (fun c6 => ?_) (fun c6 => ?_)
  · have h := ite_f c6 h
    refine lv_aload_n hx hb dX9_parts_22 rfl (lv_at hl 0 rfl) ?_
    refine va_get (D := (dC, dI)) (ci := 8) (v := .ref h_this_now) (C := RX9) (T := TX9) (N := 12) hx hb hts inX9 hown hK hP 0 rfl rfl 0 (by decide) (hts _ (kq q_226 rfl)) (fun _ h9 => h9) rfl dX9_parts_23 ?_
    refine lv_iload_n hx hb dX9_parts_26 rfl (lv_at hl 1 rfl) ?_
    refine lv_iload_n hx hb dX9_parts_27 rfl (lv_at hl 2 rfl) ?_
    refine lv_iload_n hx hb dX9_parts_28 rfl (lv_at hl 3 rfl) ?_
    refine lv_iload hx hb dX9_parts_29 (lv_at hl 4 rfl) ?_
    obtain ⟨f_this_now_months_7, f_this_now_days_8, f_this_now_seconds_9, hc10, h⟩ := bd3_at h
    refine kjV (kV (own := "DateSpans") (C := "DateSpans$Slots") (b := h_this_now) (As := [.int p1, .int p2, .int p3, .int p4]) (rest := []) ⟨hx, hb, hml, hown, hts⟩ (kX4_putSpan l dC dI cI cJ cB h_this_now h_this_now_day h_this_now_second h_this_now_months h_this_now_days h_this_now_seconds N p1 p2 p3 p4 f_this_now_months f_this_now_days f_this_now_seconds f_this_now_months_7 f_this_now_days_8 f_this_now_seconds_9 hc10 _) (kgV (kq q_296 rfl) (kq q_297 rfl) (kq q_298 rfl) (kq q_19 rfl) (kq q_299 rfl)) yd_X4_putSpan ⟨Nat.le_of_ble_eq_true rfl, Nat.le_of_ble_eq_true rfl⟩ hN hK hP hD [1, 2, 3, 4] rfl rfl (ci := 3) rfl rfl rfl rfl rfl hl.1 rfl (lv_room (Nat.le_of_ble_eq_true rfl)) dX9_parts_31) hP hD hS hA [1, 2, 3, 4] rfl rfl (fun H locs hP hD hS => ?_)
    have hP : va_P (dC, dI) vwCl [cl_X9 h_this h_this_now h_this_kept h_this_told h_this_text h_this_script h_this_momentReader h_this_spanReader h_this_adder h_this_other h_this_trial h_this_ways i_this, cl_X4 h_this_now h_this_now_day h_this_now_second h_this_now_months h_this_now_days h_this_now_seconds, (h_this_now_months, .inl (cI, 8, .inl f_this_now_months_7)), (h_this_now_days, .inl (cI, 8, .inl f_this_now_days_8)), (h_this_now_seconds, .inl (cI, 8, .inl f_this_now_seconds_9))] H := hP
    have hD : va_D A [cl_X9 h_this h_this_now h_this_kept h_this_told h_this_text h_this_script h_this_momentReader h_this_spanReader h_this_adder h_this_other h_this_trial h_this_ways i_this, cl_X4 h_this_now h_this_now_day h_this_now_second h_this_now_months h_this_now_days h_this_now_seconds, (h_this_now_months, .inl (cI, 8, .inl f_this_now_months_7)), (h_this_now_days, .inl (cI, 8, .inl f_this_now_days_8)), (h_this_now_seconds, .inl (cI, 8, .inl f_this_now_seconds_9))] := hD
    refine lv_iconst (v := (1 : Int32)) hx hb dX9_parts_34 (by decide) ?_
    obtain ⟨rfl, rfl, rfl, rfl⟩ := pj4 h
    exact hEnd _ _ _ _ hP hS dX9_parts_35 rfl
  have h := ite_t c6 h
  refine lv_iconst (v := (0 : Int32)) hx hb dX9_parts_20 (by decide) ?_
  obtain ⟨rfl, rfl, rfl, rfl⟩ := pj4 h
  exact hEnd _ _ _ _ hP hS dX9_parts_21 rfl
noncomputable def fX1_dateOf_j108 (N : Nat)  (v2 : Int32) (v4 : Int32) (v7 : Int32) (t0 : Int32) : Option (Int32) := (if t0 ≤ (2 : Int32) then (nm (((v2 * (400 : Int32)) + v4) + (1 : Int32)) fun z2 => (some (((z2 * (10000 : Int32)) + (t0 * (100 : Int32))) + v7))) else (nm (((v2 * (400 : Int32)) + v4) + (0 : Int32)) fun z3 => (some (((z3 * (10000 : Int32)) + (t0 * (100 : Int32))) + v7))))
noncomputable def fX1_dateOf (N : Nat) (p1 : Int32) : Option (Int32) := (nm (p1 + (306 : Int32)) fun z4 => (nm (z4 / (146097 : Int32)) fun z5 => (nm (z4 - z4 / (146097 : Int32) * (146097 : Int32)) fun z6 => (nm ((((z6 - (z6 / (1460 : Int32))) + (z6 / (36524 : Int32))) - (z6 / (146096 : Int32))) / (365 : Int32)) fun z7 => (nm (z6 - ((((365 : Int32) * z7) + (z7 / (4 : Int32))) - (z7 / (100 : Int32)))) fun z8 => (nm ((((5 : Int32) * z8) + (2 : Int32)) / (153 : Int32)) fun z9 => (nm ((z8 - ((((153 : Int32) * z9) + (2 : Int32)) / (5 : Int32))) + (1 : Int32)) fun z10 => (if (10 : Int32) ≤ z9 then (fX1_dateOf_j108 N z5 z7 z10 (z9 - (9 : Int32))) else (fX1_dateOf_j108 N z5 z7 z10 (z9 + (3 : Int32)))))))))))
set_option maxHeartbeats 4000000 in
set_option maxRecDepth 100000 in
theorem kX1_dateOf (l : Launch) (N : Nat) (p1 : Int32) (r : Int32) (hf : fX1_dateOf N p1 = some r) : SI l yX1_dateOf (kws yX1_dateOf cX1_dateOf 10 (some .int)) (kR 0 0) [.int p1] r := by
  refine SI.of (cc := cX1_dateOf) (maxL := 10) (by decide) (Nat.le_of_ble_eq_true rfl) (fun p e s m args below meth c Q ls KC hl hEnd => ?_)
  obtain ⟨hx, hb, hml, hown, hts⟩ := KC
  have hown : s.vm.findClass "DateSpans$Calendar" = some m.cls := hown
  have hl : lv_has ls 10 [(0, .int p1)] := hl
  have JN_108 : ∀ (v2 : Int32) (v4 : Int32) (v7 : Int32) (t0 : Int32) (ls : Array Slot), (fX1_dateOf_j108 N) v2 v4 v7 t0 = some r → lv_has ls 10 [(2, .int v2), (4, .int v4), (7, .int v7)] → W p l e (kR 0 0) s m args below meth c s.heap [] 0 0 Q (F0 m 108 ls [.int t0]) := by
    intro v2 v4 v7 t0 ls h hl
    unfold fX1_dateOf_j108 at h
    refine lv_istore (lv' := [(8, .int t0), (2, .int v2), (4, .int v4), (7, .int v7)]) hx hb dX1_dateOf_108 hl (by decide) rfl (fun ls hl => ?_)
    refine lv_iload_n hx hb dX1_dateOf_110 rfl (lv_at hl 1 rfl) ?_
    refine lv_sipush (v := (400 : Int32)) hx hb dX1_dateOf_111 (by decide) ?_
    refine lv_imul hx hb dX1_dateOf_114 ?_
    refine lv_iload hx hb dX1_dateOf_115 (lv_at hl 2 rfl) ?_
    refine lv_iadd hx hb dX1_dateOf_117 ?_
    refine lv_iload hx hb dX1_dateOf_118 (lv_at hl 0 rfl) ?_
    refine lv_iconst (v := (2 : Int32)) hx hb dX1_dateOf_120 (by decide) ?_
    refine lv_icmp_le (tgt := 128) hx hb dX1_dateOf_121 (by decide) (fun c1 => ?_) (fun c1 => ?_)
    · have h := ite_t c1 h
      refine lv_iconst (v := (1 : Int32)) hx hb dX1_dateOf_128 (by decide) ?_
      refine lv_iadd hx hb dX1_dateOf_129 ?_
      refine lv_topi (fun z2 ez2 => ?_)
      have h := nm_at ez2 h
      refine lv_istore (lv' := [(9, .int z2), (8, .int t0), (2, .int v2), (4, .int v4), (7, .int v7)]) hx hb dX1_dateOf_130 hl (by decide) rfl (fun ls hl => ?_)
      refine lv_iload hx hb dX1_dateOf_132 (lv_at hl 0 rfl) ?_
      refine lv_sipush (v := (10000 : Int32)) hx hb dX1_dateOf_134 (by decide) ?_
      refine lv_imul hx hb dX1_dateOf_137 ?_
      refine lv_iload hx hb dX1_dateOf_138 (lv_at hl 1 rfl) ?_
      refine lv_bipush (v := (100 : Int32)) hx hb dX1_dateOf_140 (by decide) ?_
      refine lv_imul hx hb dX1_dateOf_142 ?_
      refine lv_iadd hx hb dX1_dateOf_143 ?_
      refine lv_iload hx hb dX1_dateOf_144 (lv_at hl 4 rfl) ?_
      refine lv_iadd hx hb dX1_dateOf_146 ?_
      obtain rfl := pj1 h
      exact hEnd _ _ dX1_dateOf_147 rfl
    have h := ite_f c1 h
    refine lv_iconst (v := (0 : Int32)) hx hb dX1_dateOf_124 (by decide) ?_
    refine lv_goto (tgt := 129) hx hb dX1_dateOf_125 (by decide) ?_
    refine lv_iadd hx hb dX1_dateOf_129 ?_
    refine lv_topi (fun z3 ez3 => ?_)
    have h := nm_at ez3 h
    refine lv_istore (lv' := [(9, .int z3), (8, .int t0), (2, .int v2), (4, .int v4), (7, .int v7)]) hx hb dX1_dateOf_130 hl (by decide) rfl (fun ls hl => ?_)
    refine lv_iload hx hb dX1_dateOf_132 (lv_at hl 0 rfl) ?_
    refine lv_sipush (v := (10000 : Int32)) hx hb dX1_dateOf_134 (by decide) ?_
    refine lv_imul hx hb dX1_dateOf_137 ?_
    refine lv_iload hx hb dX1_dateOf_138 (lv_at hl 1 rfl) ?_
    refine lv_bipush (v := (100 : Int32)) hx hb dX1_dateOf_140 (by decide) ?_
    refine lv_imul hx hb dX1_dateOf_142 ?_
    refine lv_iadd hx hb dX1_dateOf_143 ?_
    refine lv_iload hx hb dX1_dateOf_144 (lv_at hl 4 rfl) ?_
    refine lv_iadd hx hb dX1_dateOf_146 ?_
    obtain rfl := pj1 h
    exact hEnd _ _ dX1_dateOf_147 rfl
  have h := hf
  unfold fX1_dateOf at h
  refine lv_iload_n hx hb dX1_dateOf_0 rfl (lv_at hl 0 rfl) ?_
  refine lv_sipush (v := (306 : Int32)) hx hb dX1_dateOf_1 (by decide) ?_
  refine lv_iadd hx hb dX1_dateOf_4 ?_
  refine lv_topi (fun z4 ez4 => ?_)
  have h := nm_at ez4 h
  refine lv_istore_n (lv' := [(1, .int z4), (0, .int p1)]) hx hb dX1_dateOf_5 rfl hl (by decide) rfl (fun ls hl => ?_)
  refine lv_iload_n hx hb dX1_dateOf_6 rfl (lv_at hl 0 rfl) ?_
  refine lv_ldc (v := (146097 : Int32)) hx hb hown (hts _ (kq q_307 rfl)) dX1_dateOf_7 ?_
  refine lv_idiv hx hb dX1_dateOf_9 (by decide) ?_
  refine lv_topi (fun z5 ez5 => ?_)
  have h := nm_at ez5 h
  refine lv_istore_n (lv' := [(2, .int z5), (1, .int z4), (0, .int p1)]) hx hb dX1_dateOf_10 rfl hl (by decide) rfl (fun ls hl => ?_)
  refine lv_iload_n hx hb dX1_dateOf_11 rfl (lv_at hl 1 rfl) ?_
  refine lv_ldc (v := (146097 : Int32)) hx hb hown (hts _ (kq q_307 rfl)) dX1_dateOf_12 ?_
  refine lv_irem hx hb dX1_dateOf_14 (by decide) ?_
  refine lv_topi (fun z6 ez6 => ?_)
  have h := nm_at ez6 h
  refine lv_istore_n (lv' := [(3, .int z6), (2, .int z5), (1, .int z4), (0, .int p1)]) hx hb dX1_dateOf_15 rfl hl (by decide) rfl (fun ls hl => ?_)
  refine lv_iload_n hx hb dX1_dateOf_16 rfl (lv_at hl 0 rfl) ?_
  refine lv_iload_n hx hb dX1_dateOf_17 rfl (lv_at hl 0 rfl) ?_
  refine lv_sipush (v := (1460 : Int32)) hx hb dX1_dateOf_18 (by decide) ?_
  refine lv_idiv hx hb dX1_dateOf_21 (by decide) ?_
  refine lv_isub hx hb dX1_dateOf_22 ?_
  refine lv_iload_n hx hb dX1_dateOf_23 rfl (lv_at hl 0 rfl) ?_
  refine lv_ldc (v := (36524 : Int32)) hx hb hown (hts _ (kq q_308 rfl)) dX1_dateOf_24 ?_
  refine lv_idiv hx hb dX1_dateOf_26 (by decide) ?_
  refine lv_iadd hx hb dX1_dateOf_27 ?_
  refine lv_iload_n hx hb dX1_dateOf_28 rfl (lv_at hl 0 rfl) ?_
  refine lv_ldc (v := (146096 : Int32)) hx hb hown (hts _ (kq q_309 rfl)) dX1_dateOf_29 ?_
  refine lv_idiv hx hb dX1_dateOf_31 (by decide) ?_
  refine lv_isub hx hb dX1_dateOf_32 ?_
  refine lv_sipush (v := (365 : Int32)) hx hb dX1_dateOf_33 (by decide) ?_
  refine lv_idiv hx hb dX1_dateOf_36 (by decide) ?_
  refine lv_topi (fun z7 ez7 => ?_)
  have h := nm_at ez7 h
  refine lv_istore (lv' := [(4, .int z7), (3, .int z6), (2, .int z5), (1, .int z4), (0, .int p1)]) hx hb dX1_dateOf_37 hl (by decide) rfl (fun ls hl => ?_)
  refine lv_iload_n hx hb dX1_dateOf_39 rfl (lv_at hl 1 rfl) ?_
  refine lv_sipush (v := (365 : Int32)) hx hb dX1_dateOf_40 (by decide) ?_
  refine lv_iload hx hb dX1_dateOf_43 (lv_at hl 0 rfl) ?_
  refine lv_imul hx hb dX1_dateOf_45 ?_
  refine lv_iload hx hb dX1_dateOf_46 (lv_at hl 0 rfl) ?_
  refine lv_iconst (v := (4 : Int32)) hx hb dX1_dateOf_48 (by decide) ?_
  refine lv_idiv hx hb dX1_dateOf_49 (by decide) ?_
  refine lv_iadd hx hb dX1_dateOf_50 ?_
  refine lv_iload hx hb dX1_dateOf_51 (lv_at hl 0 rfl) ?_
  refine lv_bipush (v := (100 : Int32)) hx hb dX1_dateOf_53 (by decide) ?_
  refine lv_idiv hx hb dX1_dateOf_55 (by decide) ?_
  refine lv_isub hx hb dX1_dateOf_56 ?_
  refine lv_isub hx hb dX1_dateOf_57 ?_
  refine lv_topi (fun z8 ez8 => ?_)
  have h := nm_at ez8 h
  refine lv_istore (lv' := [(5, .int z8), (4, .int z7), (3, .int z6), (2, .int z5), (1, .int z4), (0, .int p1)]) hx hb dX1_dateOf_58 hl (by decide) rfl (fun ls hl => ?_)
  refine lv_iconst (v := (5 : Int32)) hx hb dX1_dateOf_60 (by decide) ?_
  refine lv_iload hx hb dX1_dateOf_61 (lv_at hl 0 rfl) ?_
  refine lv_imul hx hb dX1_dateOf_63 ?_
  refine lv_iconst (v := (2 : Int32)) hx hb dX1_dateOf_64 (by decide) ?_
  refine lv_iadd hx hb dX1_dateOf_65 ?_
  refine lv_sipush (v := (153 : Int32)) hx hb dX1_dateOf_66 (by decide) ?_
  refine lv_idiv hx hb dX1_dateOf_69 (by decide) ?_
  refine lv_topi (fun z9 ez9 => ?_)
  have h := nm_at ez9 h
  refine lv_istore (lv' := [(6, .int z9), (5, .int z8), (4, .int z7), (3, .int z6), (2, .int z5), (1, .int z4), (0, .int p1)]) hx hb dX1_dateOf_70 hl (by decide) rfl (fun ls hl => ?_)
  refine lv_iload hx hb dX1_dateOf_72 (lv_at hl 1 rfl) ?_
  refine lv_sipush (v := (153 : Int32)) hx hb dX1_dateOf_74 (by decide) ?_
  refine lv_iload hx hb dX1_dateOf_77 (lv_at hl 0 rfl) ?_
  refine lv_imul hx hb dX1_dateOf_79 ?_
  refine lv_iconst (v := (2 : Int32)) hx hb dX1_dateOf_80 (by decide) ?_
  refine lv_iadd hx hb dX1_dateOf_81 ?_
  refine lv_iconst (v := (5 : Int32)) hx hb dX1_dateOf_82 (by decide) ?_
  refine lv_idiv hx hb dX1_dateOf_83 (by decide) ?_
  refine lv_isub hx hb dX1_dateOf_84 ?_
  refine lv_iconst (v := (1 : Int32)) hx hb dX1_dateOf_85 (by decide) ?_
  refine lv_iadd hx hb dX1_dateOf_86 ?_
  refine lv_topi (fun z10 ez10 => ?_)
  have h := nm_at ez10 h
  refine lv_istore (lv' := [(7, .int z10), (6, .int z9), (5, .int z8), (4, .int z7), (3, .int z6), (2, .int z5), (1, .int z4), (0, .int p1)]) hx hb dX1_dateOf_87 hl (by decide) rfl (fun ls hl => ?_)
  refine lv_iload hx hb dX1_dateOf_89 (lv_at hl 1 rfl) ?_
  refine lv_bipush (v := (10 : Int32)) hx hb dX1_dateOf_91 (by decide) ?_
  refine lv_icmp_ge (tgt := 103) hx hb dX1_dateOf_93 (by decide) (fun c11 => ?_) (fun c11 => ?_)
  · have h := ite_t c11 h
    refine lv_iload hx hb dX1_dateOf_103 (lv_at hl 1 rfl) ?_
    refine lv_bipush (v := (9 : Int32)) hx hb dX1_dateOf_105 (by decide) ?_
    refine lv_isub hx hb dX1_dateOf_107 ?_
    exact JN_108 _ _ _ _ _ h (lv_sub hl [5, 3, 0] rfl)
  have h := ite_f c11 h
  refine lv_iload hx hb dX1_dateOf_96 (lv_at hl 1 rfl) ?_
  refine lv_iconst (v := (3 : Int32)) hx hb dX1_dateOf_98 (by decide) ?_
  refine lv_iadd hx hb dX1_dateOf_99 ?_
  refine lv_goto (tgt := 108) hx hb dX1_dateOf_100 (by decide) ?_
  exact JN_108 _ _ _ _ _ h (lv_sub hl [5, 3, 0] rfl)
noncomputable def fX4_secondAt (N : Nat) (p1 : Int32) (f_this_second : Nat → Int32) : Option (Int32) := (bd1 (fX9_isSlot N p1) fun r1 => (if r1 = (0 : Int32) then (some (0 : Int32)) else (gi p1 8 (some (f_this_second p1.toNatClampNeg)))))
set_option maxHeartbeats 4000000 in
set_option maxRecDepth 100000 in
theorem kX4_secondAt (l : Launch) (dC : Nat → ClassId) (dI : Nat → Nat → Nat) (cI cJ cB : ClassId) (h_this h_this_day h_this_second h_this_months h_this_days h_this_seconds : Nat) (N : Nat) (p1 : Int32) (f_this_second : Nat → Int32) (r : Int32) (hf : fX4_secondAt N p1 f_this_second = some r) : MI l yX4_secondAt (kws yX4_secondAt cX4_secondAt 2 (some .int)) (kR 1 20) (dC, dI) (kT cI cJ cB) [.ref h_this, .int p1] [cl_X4 h_this h_this_day h_this_second h_this_months h_this_days h_this_seconds, (h_this_second, .inl (cI, 8, .inl f_this_second))] [cl_X4 h_this h_this_day h_this_second h_this_months h_this_days h_this_seconds, (h_this_second, .inl (cI, 8, .inl f_this_second))] r := by
  refine MI.of (cc := cX4_secondAt) (maxL := 2) (by decide) (Nat.le_of_ble_eq_true rfl) (fun p e s m args below meth c A Q ls KC hN hK hP hD hA hl hEnd => ?_)
  obtain ⟨hx, hb, hml, hown, hts⟩ := KC
  have hown : s.vm.findClass "DateSpans$Slots" = some m.cls := hown
  have hl : lv_has ls 2 [(0, .ref h_this), (1, .int p1)] := hl
  have hS : va_S A s.heap s.heap [] := va_S.rf
  have h := hf
  unfold fX4_secondAt at h
  refine lv_iload_n hx hb dX4_secondAt_0 rfl (lv_at hl 1 rfl) ?_
  obtain ⟨r1, hc2, h⟩ := bd1_at h
  refine kjSI (kSN0 (own := "DateSpans$Slots") (As := [.int p1]) (rest := []) ⟨hx, hb, hml, hown, hts⟩ (kX9_isSlot l N p1 r1 hc2) (kgN (kq q_269 rfl)) (hN _ q_279 rfl) (kq q_268 rfl) (kq q_18 rfl) yd_X9_isSlot ⟨Nat.le_of_ble_eq_true rfl, Nat.le_of_ble_eq_true rfl⟩ rfl rfl hl.1 rfl (lv_room (Nat.le_of_ble_eq_true rfl)) dX4_secondAt_1) ?_
  refine lv_if_eq (tgt := 16) hx hb dX4_secondAt_4 (by decide) (fun c3 => ?_) (fun c3 => ?_)
  · have h := ite_t c3 h
    refine lv_iconst (v := (0 : Int32)) hx hb dX4_secondAt_16 (by decide) ?_
    obtain rfl := pj1 h
    exact hEnd _ _ _ _ hP hS dX4_secondAt_17 rfl
  have h := ite_f c3 h
  refine lv_aload_n hx hb dX4_secondAt_7 rfl (lv_at hl 0 rfl) ?_
  refine va_get (D := (dC, dI)) (ci := 3) (v := .ref h_this_second) (C := RX4) (T := TX4) (N := 5) hx hb hts inX4 hown hK hP 0 rfl rfl 1 (by decide) (hts _ (kq q_48 rfl)) (fun _ h9 => h9) rfl dX4_secondAt_8 ?_
  refine lv_iload_n hx hb dX4_secondAt_11 rfl (lv_at hl 1 rfl) ?_
  obtain ⟨hi4, h⟩ := gi_at h
  refine va_iald hx hb hK hP 1 0 rfl rfl hi4 dX4_secondAt_12 ?_
  refine lv_goto (tgt := 17) hx hb dX4_secondAt_13 (by decide) ?_
  obtain rfl := pj1 h
  exact hEnd _ _ _ _ hP hS dX4_secondAt_17 rfl
noncomputable def fX1_weekdayOf (N : Nat) (p1 : Int32) : Option (Int32) := (some (p1 - p1 / (7 : Int32) * (7 : Int32)))
set_option maxHeartbeats 4000000 in
set_option maxRecDepth 100000 in
theorem kX1_weekdayOf (l : Launch) (N : Nat) (p1 : Int32) (r : Int32) (hf : fX1_weekdayOf N p1 = some r) : SI l yX1_weekdayOf (kws yX1_weekdayOf cX1_weekdayOf 1 (some .int)) (kR 0 0) [.int p1] r := by
  refine SI.of (cc := cX1_weekdayOf) (maxL := 1) (by decide) (Nat.le_of_ble_eq_true rfl) (fun p e s m args below meth c Q ls KC hl hEnd => ?_)
  obtain ⟨hx, hb, hml, hown, hts⟩ := KC
  have hown : s.vm.findClass "DateSpans$Calendar" = some m.cls := hown
  have hl : lv_has ls 1 [(0, .int p1)] := hl
  have h := hf
  unfold fX1_weekdayOf at h
  refine lv_iload_n hx hb dX1_weekdayOf_0 rfl (lv_at hl 0 rfl) ?_
  refine lv_bipush (v := (7 : Int32)) hx hb dX1_weekdayOf_1 (by decide) ?_
  refine lv_irem hx hb dX1_weekdayOf_3 (by decide) ?_
  obtain rfl := pj1 h
  exact hEnd _ _ dX1_weekdayOf_4 rfl
noncomputable def fX9_momentIs (N : Nat) (p1 : Int32) (p2 : Int32) (i_this : Int32) (f_this_now_day : Nat → Int32) (f_this_now_second : Nat → Int32) : Option (Int32) := (bd1 (fX9_isSlot N p1) fun r1 => (if r1 = (0 : Int32) then (some (-1 : Int32)) else (bd1 (fX4_dayAt N p1 f_this_now_day) fun r4 => (bd1 (fX1_dateOf N r4) fun r6 => (nm (r6 / (10000 : Int32)) fun z8 => (if p2 = (0 : Int32) then (some r4) else (if p2 = (1 : Int32) then (bd1 (fX4_secondAt N p1 f_this_now_second) fun r11 => (some r11)) else (if p2 = (2 : Int32) then (some r6) else (if p2 = (3 : Int32) then (bd1 (fX1_weekdayOf N r4) fun r15 => (some r15)) else (if p2 = (4 : Int32) then (bd1 (fX1_dayOf N z8 (1 : Int32) (1 : Int32)) fun r18 => (some ((r4 - r18) + (1 : Int32)))) else (if p2 = (5 : Int32) then (bd1 (fX1_monthLength N z8 ((r6 / (100 : Int32)) - (r6 / (100 : Int32)) / (100 : Int32) * (100 : Int32))) fun r21 => (some r21)) else (if p2 = (6 : Int32) then (bd1 (fX1_isLeap N z8) fun r24 => (if r24 = (0 : Int32) then (some (0 : Int32)) else (some (1 : Int32)))) else (some (-1 : Int32))))))))))))))
set_option maxHeartbeats 4000000 in
set_option maxRecDepth 100000 in
theorem kX9_momentIs (l : Launch) (dC : Nat → ClassId) (dI : Nat → Nat → Nat) (cI cJ cB : ClassId) (h_this h_this_now h_this_kept h_this_told h_this_text h_this_script h_this_momentReader h_this_spanReader h_this_adder h_this_other h_this_trial h_this_ways h_this_now_day h_this_now_second h_this_now_months h_this_now_days h_this_now_seconds : Nat) (N : Nat) (p1 : Int32) (p2 : Int32) (i_this : Int32) (f_this_now_day : Nat → Int32) (f_this_now_second : Nat → Int32) (r : Int32) (hf : fX9_momentIs N p1 p2 i_this f_this_now_day f_this_now_second = some r) : MI l yX9_momentIs (kws yX9_momentIs cX9_momentIs 6 (some .int)) (kR 2 41) (dC, dI) (kT cI cJ cB) [.ref h_this, .int p1, .int p2] [cl_X9 h_this h_this_now h_this_kept h_this_told h_this_text h_this_script h_this_momentReader h_this_spanReader h_this_adder h_this_other h_this_trial h_this_ways i_this, cl_X4 h_this_now h_this_now_day h_this_now_second h_this_now_months h_this_now_days h_this_now_seconds, (h_this_now_day, .inl (cI, 8, .inl f_this_now_day)), (h_this_now_second, .inl (cI, 8, .inl f_this_now_second))] [cl_X9 h_this h_this_now h_this_kept h_this_told h_this_text h_this_script h_this_momentReader h_this_spanReader h_this_adder h_this_other h_this_trial h_this_ways i_this, cl_X4 h_this_now h_this_now_day h_this_now_second h_this_now_months h_this_now_days h_this_now_seconds, (h_this_now_day, .inl (cI, 8, .inl f_this_now_day)), (h_this_now_second, .inl (cI, 8, .inl f_this_now_second))] r := by
  refine MI.of (cc := cX9_momentIs) (maxL := 6) (by decide) (Nat.le_of_ble_eq_true rfl) (fun p e s m args below meth c A Q ls KC hN hK hP hD hA hl hEnd => ?_)
  obtain ⟨hx, hb, hml, hown, hts⟩ := KC
  have hown : s.vm.findClass "DateSpans" = some m.cls := hown
  have hl : lv_has ls 6 [(0, .ref h_this), (1, .int p1), (2, .int p2)] := hl
  have hS : va_S A s.heap s.heap [] := va_S.rf
  have h := hf
  unfold fX9_momentIs at h
  refine lv_iload_n hx hb dX9_momentIs_0 rfl (lv_at hl 1 rfl) ?_
  obtain ⟨r1, hc2, h⟩ := bd1_at h
  refine kjSI (kS0 (own := "DateSpans") (As := [.int p1]) (rest := []) ⟨hx, hb, hml, hown, hts⟩ (kX9_isSlot l N p1 r1 hc2) (kgS (kq q_267 rfl) (kq q_268 rfl) (kq q_18 rfl) (kq q_269 rfl)) yd_X9_isSlot ⟨Nat.le_of_ble_eq_true rfl, Nat.le_of_ble_eq_true rfl⟩ rfl rfl hl.1 rfl (lv_room (Nat.le_of_ble_eq_true rfl)) dX9_momentIs_1) ?_
  refine lv_if_ne (tgt := 9) hx hb dX9_momentIs_4 (by decide) (fun c3 => ?_) (fun c3 => ?_)
  · have h := ite_f c3 h
    refine lv_aload_n hx hb dX9_momentIs_9 rfl (lv_at hl 0 rfl) ?_
    refine va_get (D := (dC, dI)) (ci := 8) (v := .ref h_this_now) (C := RX9) (T := TX9) (N := 12) hx hb hts inX9 hown hK hP 0 rfl rfl 0 (by decide) (hts _ (kq q_226 rfl)) (fun _ h9 => h9) rfl dX9_momentIs_10 ?_
    refine lv_iload_n hx hb dX9_momentIs_13 rfl (lv_at hl 1 rfl) ?_
    obtain ⟨r4, hc5, h⟩ := bd1_at h
    refine kjI (kV (own := "DateSpans") (C := "DateSpans$Slots") (b := h_this_now) (As := [.int p1]) (rest := []) ⟨hx, hb, hml, hown, hts⟩ (kX4_dayAt l dC dI cI cJ cB h_this_now h_this_now_day h_this_now_second h_this_now_months h_this_now_days h_this_now_seconds N p1 f_this_now_day r4 hc5 _) (kgV (kq q_275 rfl) (kq q_276 rfl) (kq q_277 rfl) (kq q_19 rfl) (kq q_278 rfl)) yd_X4_dayAt ⟨Nat.le_of_ble_eq_true rfl, Nat.le_of_ble_eq_true rfl⟩ hN hK hP hD [1, 2] rfl rfl (ci := 3) rfl rfl rfl rfl rfl hl.1 rfl (lv_room (Nat.le_of_ble_eq_true rfl)) dX9_momentIs_14) hP hD hS hA [1, 2] rfl rfl (fun H locs hP hD hS => ?_)
    have hP : va_P (dC, dI) vwCl [cl_X9 h_this h_this_now h_this_kept h_this_told h_this_text h_this_script h_this_momentReader h_this_spanReader h_this_adder h_this_other h_this_trial h_this_ways i_this, cl_X4 h_this_now h_this_now_day h_this_now_second h_this_now_months h_this_now_days h_this_now_seconds, (h_this_now_day, .inl (cI, 8, .inl f_this_now_day)), (h_this_now_second, .inl (cI, 8, .inl f_this_now_second))] H := hP
    have hD : va_D A [cl_X9 h_this h_this_now h_this_kept h_this_told h_this_text h_this_script h_this_momentReader h_this_spanReader h_this_adder h_this_other h_this_trial h_this_ways i_this, cl_X4 h_this_now h_this_now_day h_this_now_second h_this_now_months h_this_now_days h_this_now_seconds, (h_this_now_day, .inl (cI, 8, .inl f_this_now_day)), (h_this_now_second, .inl (cI, 8, .inl f_this_now_second))] := hD
    refine lv_istore_n (lv' := [(3, .int r4), (0, .ref h_this), (1, .int p1), (2, .int p2)]) hx hb dX9_momentIs_17 rfl hl (by decide) rfl (fun ls hl => ?_)
    refine lv_iload_n hx hb dX9_momentIs_18 rfl (lv_at hl 0 rfl) ?_
    obtain ⟨r6, hc7, h⟩ := bd1_at h
    refine kjSI (kS0 (own := "DateSpans") (As := [.int r4]) (rest := []) ⟨hx, hb, hml, hown, hts⟩ (kX1_dateOf l N r4 r6 hc7) (kgS (kq q_304 rfl) (kq q_305 rfl) (kq q_28 rfl) (kq q_306 rfl)) yd_X1_dateOf ⟨Nat.le_of_ble_eq_true rfl, Nat.le_of_ble_eq_true rfl⟩ rfl rfl hl.1 rfl (lv_room (Nat.le_of_ble_eq_true rfl)) dX9_momentIs_19) ?_
    refine lv_istore (lv' := [(4, .int r6), (3, .int r4), (0, .ref h_this), (1, .int p1), (2, .int p2)]) hx hb dX9_momentIs_22 hl (by decide) rfl (fun ls hl => ?_)
    refine lv_iload hx hb dX9_momentIs_24 (lv_at hl 0 rfl) ?_
    refine lv_sipush (v := (10000 : Int32)) hx hb dX9_momentIs_26 (by decide) ?_
    refine lv_idiv hx hb dX9_momentIs_29 (by decide) ?_
    refine lv_topi (fun z8 ez8 => ?_)
    have h := nm_at ez8 h
    refine lv_istore (lv' := [(5, .int z8), (4, .int r6), (3, .int r4), (0, .ref h_this), (1, .int p1), (2, .int p2)]) hx hb dX9_momentIs_30 hl (by decide) rfl (fun ls hl => ?_)
    refine lv_iload_n hx hb dX9_momentIs_32 rfl (lv_at hl 5 rfl) ?_
    by_cases c9 : p2 = (0 : Int32)
    · have h := ite_t c9 h
      refine lv_tableIn (x := p2) (tgt := 76) hx hb dX9_momentIs_33 (by rw [c9]; decide) (by rw [c9]; decide) (by rw [c9]; rfl) (by decide) ?_
      refine lv_iload_n hx hb dX9_momentIs_76 rfl (lv_at hl 2 rfl) ?_
      obtain rfl := pj1 h
      exact hEnd _ _ _ _ hP hS dX9_momentIs_77 rfl
    have h := ite_f c9 h
    by_cases c10 : p2 = (1 : Int32)
    · have h := ite_t c10 h
      refine lv_tableIn (x := p2) (tgt := 78) hx hb dX9_momentIs_33 (by rw [c10]; decide) (by rw [c10]; decide) (by rw [c10]; rfl) (by decide) ?_
      refine lv_aload_n hx hb dX9_momentIs_78 rfl (lv_at hl 3 rfl) ?_
      refine va_get (D := (dC, dI)) (ci := 8) (v := .ref h_this_now) (C := RX9) (T := TX9) (N := 12) hx hb hts inX9 hown hK hP 0 rfl rfl 0 (by decide) (hts _ (kq q_226 rfl)) (fun _ h9 => h9) rfl dX9_momentIs_79 ?_
      refine lv_iload_n hx hb dX9_momentIs_82 rfl (lv_at hl 4 rfl) ?_
      obtain ⟨r11, hc12, h⟩ := bd1_at h
      refine kjI (kV (own := "DateSpans") (C := "DateSpans$Slots") (b := h_this_now) (As := [.int p1]) (rest := []) ⟨hx, hb, hml, hown, hts⟩ (kX4_secondAt l dC dI cI cJ cB h_this_now h_this_now_day h_this_now_second h_this_now_months h_this_now_days h_this_now_seconds N p1 f_this_now_second r11 hc12 _) (kgV (kq q_310 rfl) (kq q_311 rfl) (kq q_312 rfl) (kq q_19 rfl) (kq q_313 rfl)) yd_X4_secondAt ⟨Nat.le_of_ble_eq_true rfl, Nat.le_of_ble_eq_true rfl⟩ hN hK hP hD [1, 3] rfl rfl (ci := 3) rfl rfl rfl rfl rfl hl.1 rfl (lv_room (Nat.le_of_ble_eq_true rfl)) dX9_momentIs_83) hP hD hS hA [1, 3] rfl rfl (fun H locs hP hD hS => ?_)
      have hP : va_P (dC, dI) vwCl [cl_X9 h_this h_this_now h_this_kept h_this_told h_this_text h_this_script h_this_momentReader h_this_spanReader h_this_adder h_this_other h_this_trial h_this_ways i_this, cl_X4 h_this_now h_this_now_day h_this_now_second h_this_now_months h_this_now_days h_this_now_seconds, (h_this_now_day, .inl (cI, 8, .inl f_this_now_day)), (h_this_now_second, .inl (cI, 8, .inl f_this_now_second))] H := hP
      have hD : va_D A [cl_X9 h_this h_this_now h_this_kept h_this_told h_this_text h_this_script h_this_momentReader h_this_spanReader h_this_adder h_this_other h_this_trial h_this_ways i_this, cl_X4 h_this_now h_this_now_day h_this_now_second h_this_now_months h_this_now_days h_this_now_seconds, (h_this_now_day, .inl (cI, 8, .inl f_this_now_day)), (h_this_now_second, .inl (cI, 8, .inl f_this_now_second))] := hD
      obtain rfl := pj1 h
      exact hEnd _ _ _ _ hP hS dX9_momentIs_86 rfl
    have h := ite_f c10 h
    by_cases c13 : p2 = (2 : Int32)
    · have h := ite_t c13 h
      refine lv_tableIn (x := p2) (tgt := 87) hx hb dX9_momentIs_33 (by rw [c13]; decide) (by rw [c13]; decide) (by rw [c13]; rfl) (by decide) ?_
      refine lv_iload hx hb dX9_momentIs_87 (lv_at hl 1 rfl) ?_
      obtain rfl := pj1 h
      exact hEnd _ _ _ _ hP hS dX9_momentIs_89 rfl
    have h := ite_f c13 h
    by_cases c14 : p2 = (3 : Int32)
    · have h := ite_t c14 h
      refine lv_tableIn (x := p2) (tgt := 90) hx hb dX9_momentIs_33 (by rw [c14]; decide) (by rw [c14]; decide) (by rw [c14]; rfl) (by decide) ?_
      refine lv_iload_n hx hb dX9_momentIs_90 rfl (lv_at hl 2 rfl) ?_
      obtain ⟨r15, hc16, h⟩ := bd1_at h
      refine kjSI (kS0 (own := "DateSpans") (As := [.int r4]) (rest := []) ⟨hx, hb, hml, hown, hts⟩ (kX1_weekdayOf l N r4 r15 hc16) (kgS (kq q_314 rfl) (kq q_315 rfl) (kq q_28 rfl) (kq q_316 rfl)) yd_X1_weekdayOf ⟨Nat.le_of_ble_eq_true rfl, Nat.le_of_ble_eq_true rfl⟩ rfl rfl hl.1 rfl (lv_room (Nat.le_of_ble_eq_true rfl)) dX9_momentIs_91) ?_
      obtain rfl := pj1 h
      exact hEnd _ _ _ _ hP hS dX9_momentIs_94 rfl
    have h := ite_f c14 h
    by_cases c17 : p2 = (4 : Int32)
    · have h := ite_t c17 h
      refine lv_tableIn (x := p2) (tgt := 95) hx hb dX9_momentIs_33 (by rw [c17]; decide) (by rw [c17]; decide) (by rw [c17]; rfl) (by decide) ?_
      refine lv_iload_n hx hb dX9_momentIs_95 rfl (lv_at hl 2 rfl) ?_
      refine lv_iload hx hb dX9_momentIs_96 (lv_at hl 0 rfl) ?_
      refine lv_iconst (v := (1 : Int32)) hx hb dX9_momentIs_98 (by decide) ?_
      refine lv_iconst (v := (1 : Int32)) hx hb dX9_momentIs_99 (by decide) ?_
      obtain ⟨r18, hc19, h⟩ := bd1_at h
      refine kjSI (kS0 (own := "DateSpans") (As := [.int z8, .int (1 : Int32), .int (1 : Int32)]) (rest := [.int r4]) ⟨hx, hb, hml, hown, hts⟩ (kX1_dayOf l N z8 (1 : Int32) (1 : Int32) r18 hc19) (kgS (kq q_317 rfl) (kq q_318 rfl) (kq q_28 rfl) (kq q_319 rfl)) yd_X1_dayOf ⟨Nat.le_of_ble_eq_true rfl, Nat.le_of_ble_eq_true rfl⟩ rfl rfl hl.1 rfl (lv_room (Nat.le_of_ble_eq_true rfl)) dX9_momentIs_100) ?_
      refine lv_isub hx hb dX9_momentIs_103 ?_
      refine lv_iconst (v := (1 : Int32)) hx hb dX9_momentIs_104 (by decide) ?_
      refine lv_iadd hx hb dX9_momentIs_105 ?_
      obtain rfl := pj1 h
      exact hEnd _ _ _ _ hP hS dX9_momentIs_106 rfl
    have h := ite_f c17 h
    by_cases c20 : p2 = (5 : Int32)
    · have h := ite_t c20 h
      refine lv_tableIn (x := p2) (tgt := 107) hx hb dX9_momentIs_33 (by rw [c20]; decide) (by rw [c20]; decide) (by rw [c20]; rfl) (by decide) ?_
      refine lv_iload hx hb dX9_momentIs_107 (lv_at hl 0 rfl) ?_
      refine lv_iload hx hb dX9_momentIs_109 (lv_at hl 1 rfl) ?_
      refine lv_bipush (v := (100 : Int32)) hx hb dX9_momentIs_111 (by decide) ?_
      refine lv_idiv hx hb dX9_momentIs_113 (by decide) ?_
      refine lv_bipush (v := (100 : Int32)) hx hb dX9_momentIs_114 (by decide) ?_
      refine lv_irem hx hb dX9_momentIs_116 (by decide) ?_
      obtain ⟨r21, hc22, h⟩ := bd1_at h
      refine kjSI (kS0 (own := "DateSpans") (As := [.int z8, .int ((r6 / (100 : Int32)) - (r6 / (100 : Int32)) / (100 : Int32) * (100 : Int32))]) (rest := []) ⟨hx, hb, hml, hown, hts⟩ (kX1_monthLength l N z8 ((r6 / (100 : Int32)) - (r6 / (100 : Int32)) / (100 : Int32) * (100 : Int32)) r21 hc22) (kgS (kq q_320 rfl) (kq q_321 rfl) (kq q_28 rfl) (kq q_322 rfl)) yd_X1_monthLength ⟨Nat.le_of_ble_eq_true rfl, Nat.le_of_ble_eq_true rfl⟩ rfl rfl hl.1 rfl (lv_room (Nat.le_of_ble_eq_true rfl)) dX9_momentIs_117) ?_
      obtain rfl := pj1 h
      exact hEnd _ _ _ _ hP hS dX9_momentIs_120 rfl
    have h := ite_f c20 h
    by_cases c23 : p2 = (6 : Int32)
    · have h := ite_t c23 h
      refine lv_tableIn (x := p2) (tgt := 121) hx hb dX9_momentIs_33 (by rw [c23]; decide) (by rw [c23]; decide) (by rw [c23]; rfl) (by decide) ?_
      refine lv_iload hx hb dX9_momentIs_121 (lv_at hl 0 rfl) ?_
      obtain ⟨r24, hc25, h⟩ := bd1_at h
      refine kjSI (kS0 (own := "DateSpans") (As := [.int z8]) (rest := []) ⟨hx, hb, hml, hown, hts⟩ (kX1_isLeap l N z8 r24 hc25) (kgS (kq q_326 rfl) (kq q_324 rfl) (kq q_28 rfl) (kq q_325 rfl)) yd_X1_isLeap ⟨Nat.le_of_ble_eq_true rfl, Nat.le_of_ble_eq_true rfl⟩ rfl rfl hl.1 rfl (lv_room (Nat.le_of_ble_eq_true rfl)) dX9_momentIs_123) ?_
      refine lv_if_eq (tgt := 133) hx hb dX9_momentIs_126 (by decide) (fun c26 => ?_) (fun c26 => ?_)
      · have h := ite_t c26 h
        refine lv_iconst (v := (0 : Int32)) hx hb dX9_momentIs_133 (by decide) ?_
        obtain rfl := pj1 h
        exact hEnd _ _ _ _ hP hS dX9_momentIs_134 rfl
      have h := ite_f c26 h
      refine lv_iconst (v := (1 : Int32)) hx hb dX9_momentIs_129 (by decide) ?_
      refine lv_goto (tgt := 134) hx hb dX9_momentIs_130 (by decide) ?_
      obtain rfl := pj1 h
      exact hEnd _ _ _ _ hP hS dX9_momentIs_134 rfl
    have h := ite_f c23 h
    have gc9 := kne (k := 0) (by decide) c9
    have gc10 := kne (k := 1) (by decide) c10
    have gc13 := kne (k := 2) (by decide) c13
    have gc14 := kne (k := 3) (by decide) c14
    have gc17 := kne (k := 4) (by decide) c17
    have gc20 := kne (k := 5) (by decide) c20
    have gc23 := kne (k := 6) (by decide) c23
    refine lv_tableOut (x := p2) (tgt := 135) hx hb dX9_momentIs_33 (by omega) (by decide) ?_
    refine lv_iconst (v := (-1 : Int32)) hx hb dX9_momentIs_135 (by decide) ?_
    obtain rfl := pj1 h
    exact hEnd _ _ _ _ hP hS dX9_momentIs_136 rfl
  have h := ite_t c3 h
  refine lv_iconst (v := (-1 : Int32)) hx hb dX9_momentIs_7 (by decide) ?_
  obtain rfl := pj1 h
  exact hEnd _ _ _ _ hP hS dX9_momentIs_8 rfl
noncomputable def fX4_monthsAt (N : Nat) (p1 : Int32) (f_this_months : Nat → Int32) : Option (Int32) := (bd1 (fX9_isSlot N p1) fun r1 => (if r1 = (0 : Int32) then (some (0 : Int32)) else (gi p1 8 (some (f_this_months p1.toNatClampNeg)))))
set_option maxHeartbeats 4000000 in
set_option maxRecDepth 100000 in
theorem kX4_monthsAt (l : Launch) (dC : Nat → ClassId) (dI : Nat → Nat → Nat) (cI cJ cB : ClassId) (h_this h_this_day h_this_second h_this_months h_this_days h_this_seconds : Nat) (N : Nat) (p1 : Int32) (f_this_months : Nat → Int32) (r : Int32) (hf : fX4_monthsAt N p1 f_this_months = some r) : MI l yX4_monthsAt (kws yX4_monthsAt cX4_monthsAt 2 (some .int)) (kR 1 20) (dC, dI) (kT cI cJ cB) [.ref h_this, .int p1] [cl_X4 h_this h_this_day h_this_second h_this_months h_this_days h_this_seconds, (h_this_months, .inl (cI, 8, .inl f_this_months))] [cl_X4 h_this h_this_day h_this_second h_this_months h_this_days h_this_seconds, (h_this_months, .inl (cI, 8, .inl f_this_months))] r := by
  refine MI.of (cc := cX4_monthsAt) (maxL := 2) (by decide) (Nat.le_of_ble_eq_true rfl) (fun p e s m args below meth c A Q ls KC hN hK hP hD hA hl hEnd => ?_)
  obtain ⟨hx, hb, hml, hown, hts⟩ := KC
  have hown : s.vm.findClass "DateSpans$Slots" = some m.cls := hown
  have hl : lv_has ls 2 [(0, .ref h_this), (1, .int p1)] := hl
  have hS : va_S A s.heap s.heap [] := va_S.rf
  have h := hf
  unfold fX4_monthsAt at h
  refine lv_iload_n hx hb dX4_monthsAt_0 rfl (lv_at hl 1 rfl) ?_
  obtain ⟨r1, hc2, h⟩ := bd1_at h
  refine kjSI (kSN0 (own := "DateSpans$Slots") (As := [.int p1]) (rest := []) ⟨hx, hb, hml, hown, hts⟩ (kX9_isSlot l N p1 r1 hc2) (kgN (kq q_269 rfl)) (hN _ q_279 rfl) (kq q_268 rfl) (kq q_18 rfl) yd_X9_isSlot ⟨Nat.le_of_ble_eq_true rfl, Nat.le_of_ble_eq_true rfl⟩ rfl rfl hl.1 rfl (lv_room (Nat.le_of_ble_eq_true rfl)) dX4_monthsAt_1) ?_
  refine lv_if_eq (tgt := 16) hx hb dX4_monthsAt_4 (by decide) (fun c3 => ?_) (fun c3 => ?_)
  · have h := ite_t c3 h
    refine lv_iconst (v := (0 : Int32)) hx hb dX4_monthsAt_16 (by decide) ?_
    obtain rfl := pj1 h
    exact hEnd _ _ _ _ hP hS dX4_monthsAt_17 rfl
  have h := ite_f c3 h
  refine lv_aload_n hx hb dX4_monthsAt_7 rfl (lv_at hl 0 rfl) ?_
  refine va_get (D := (dC, dI)) (ci := 3) (v := .ref h_this_months) (C := RX4) (T := TX4) (N := 5) hx hb hts inX4 hown hK hP 0 rfl rfl 2 (by decide) (hts _ (kq q_49 rfl)) (fun _ h9 => h9) rfl dX4_monthsAt_8 ?_
  refine lv_iload_n hx hb dX4_monthsAt_11 rfl (lv_at hl 1 rfl) ?_
  obtain ⟨hi4, h⟩ := gi_at h
  refine va_iald hx hb hK hP 1 0 rfl rfl hi4 dX4_monthsAt_12 ?_
  refine lv_goto (tgt := 17) hx hb dX4_monthsAt_13 (by decide) ?_
  obtain rfl := pj1 h
  exact hEnd _ _ _ _ hP hS dX4_monthsAt_17 rfl
noncomputable def fX4_daysAt (N : Nat) (p1 : Int32) (f_this_days : Nat → Int32) : Option (Int32) := (bd1 (fX9_isSlot N p1) fun r1 => (if r1 = (0 : Int32) then (some (0 : Int32)) else (gi p1 8 (some (f_this_days p1.toNatClampNeg)))))
set_option maxHeartbeats 4000000 in
set_option maxRecDepth 100000 in
theorem kX4_daysAt (l : Launch) (dC : Nat → ClassId) (dI : Nat → Nat → Nat) (cI cJ cB : ClassId) (h_this h_this_day h_this_second h_this_months h_this_days h_this_seconds : Nat) (N : Nat) (p1 : Int32) (f_this_days : Nat → Int32) (r : Int32) (hf : fX4_daysAt N p1 f_this_days = some r) : MI l yX4_daysAt (kws yX4_daysAt cX4_daysAt 2 (some .int)) (kR 1 20) (dC, dI) (kT cI cJ cB) [.ref h_this, .int p1] [cl_X4 h_this h_this_day h_this_second h_this_months h_this_days h_this_seconds, (h_this_days, .inl (cI, 8, .inl f_this_days))] [cl_X4 h_this h_this_day h_this_second h_this_months h_this_days h_this_seconds, (h_this_days, .inl (cI, 8, .inl f_this_days))] r := by
  refine MI.of (cc := cX4_daysAt) (maxL := 2) (by decide) (Nat.le_of_ble_eq_true rfl) (fun p e s m args below meth c A Q ls KC hN hK hP hD hA hl hEnd => ?_)
  obtain ⟨hx, hb, hml, hown, hts⟩ := KC
  have hown : s.vm.findClass "DateSpans$Slots" = some m.cls := hown
  have hl : lv_has ls 2 [(0, .ref h_this), (1, .int p1)] := hl
  have hS : va_S A s.heap s.heap [] := va_S.rf
  have h := hf
  unfold fX4_daysAt at h
  refine lv_iload_n hx hb dX4_daysAt_0 rfl (lv_at hl 1 rfl) ?_
  obtain ⟨r1, hc2, h⟩ := bd1_at h
  refine kjSI (kSN0 (own := "DateSpans$Slots") (As := [.int p1]) (rest := []) ⟨hx, hb, hml, hown, hts⟩ (kX9_isSlot l N p1 r1 hc2) (kgN (kq q_269 rfl)) (hN _ q_279 rfl) (kq q_268 rfl) (kq q_18 rfl) yd_X9_isSlot ⟨Nat.le_of_ble_eq_true rfl, Nat.le_of_ble_eq_true rfl⟩ rfl rfl hl.1 rfl (lv_room (Nat.le_of_ble_eq_true rfl)) dX4_daysAt_1) ?_
  refine lv_if_eq (tgt := 16) hx hb dX4_daysAt_4 (by decide) (fun c3 => ?_) (fun c3 => ?_)
  · have h := ite_t c3 h
    refine lv_iconst (v := (0 : Int32)) hx hb dX4_daysAt_16 (by decide) ?_
    obtain rfl := pj1 h
    exact hEnd _ _ _ _ hP hS dX4_daysAt_17 rfl
  have h := ite_f c3 h
  refine lv_aload_n hx hb dX4_daysAt_7 rfl (lv_at hl 0 rfl) ?_
  refine va_get (D := (dC, dI)) (ci := 3) (v := .ref h_this_days) (C := RX4) (T := TX4) (N := 5) hx hb hts inX4 hown hK hP 0 rfl rfl 3 (by decide) (hts _ (kq q_50 rfl)) (fun _ h9 => h9) rfl dX4_daysAt_8 ?_
  refine lv_iload_n hx hb dX4_daysAt_11 rfl (lv_at hl 1 rfl) ?_
  obtain ⟨hi4, h⟩ := gi_at h
  refine va_iald hx hb hK hP 1 0 rfl rfl hi4 dX4_daysAt_12 ?_
  refine lv_goto (tgt := 17) hx hb dX4_daysAt_13 (by decide) ?_
  obtain rfl := pj1 h
  exact hEnd _ _ _ _ hP hS dX4_daysAt_17 rfl
noncomputable def fX4_secondsAt (N : Nat) (p1 : Int32) (f_this_seconds : Nat → Int32) : Option (Int32) := (bd1 (fX9_isSlot N p1) fun r1 => (if r1 = (0 : Int32) then (some (0 : Int32)) else (gi p1 8 (some (f_this_seconds p1.toNatClampNeg)))))
set_option maxHeartbeats 4000000 in
set_option maxRecDepth 100000 in
theorem kX4_secondsAt (l : Launch) (dC : Nat → ClassId) (dI : Nat → Nat → Nat) (cI cJ cB : ClassId) (h_this h_this_day h_this_second h_this_months h_this_days h_this_seconds : Nat) (N : Nat) (p1 : Int32) (f_this_seconds : Nat → Int32) (r : Int32) (hf : fX4_secondsAt N p1 f_this_seconds = some r) : MI l yX4_secondsAt (kws yX4_secondsAt cX4_secondsAt 2 (some .int)) (kR 1 20) (dC, dI) (kT cI cJ cB) [.ref h_this, .int p1] [cl_X4 h_this h_this_day h_this_second h_this_months h_this_days h_this_seconds, (h_this_seconds, .inl (cI, 8, .inl f_this_seconds))] [cl_X4 h_this h_this_day h_this_second h_this_months h_this_days h_this_seconds, (h_this_seconds, .inl (cI, 8, .inl f_this_seconds))] r := by
  refine MI.of (cc := cX4_secondsAt) (maxL := 2) (by decide) (Nat.le_of_ble_eq_true rfl) (fun p e s m args below meth c A Q ls KC hN hK hP hD hA hl hEnd => ?_)
  obtain ⟨hx, hb, hml, hown, hts⟩ := KC
  have hown : s.vm.findClass "DateSpans$Slots" = some m.cls := hown
  have hl : lv_has ls 2 [(0, .ref h_this), (1, .int p1)] := hl
  have hS : va_S A s.heap s.heap [] := va_S.rf
  have h := hf
  unfold fX4_secondsAt at h
  refine lv_iload_n hx hb dX4_secondsAt_0 rfl (lv_at hl 1 rfl) ?_
  obtain ⟨r1, hc2, h⟩ := bd1_at h
  refine kjSI (kSN0 (own := "DateSpans$Slots") (As := [.int p1]) (rest := []) ⟨hx, hb, hml, hown, hts⟩ (kX9_isSlot l N p1 r1 hc2) (kgN (kq q_269 rfl)) (hN _ q_279 rfl) (kq q_268 rfl) (kq q_18 rfl) yd_X9_isSlot ⟨Nat.le_of_ble_eq_true rfl, Nat.le_of_ble_eq_true rfl⟩ rfl rfl hl.1 rfl (lv_room (Nat.le_of_ble_eq_true rfl)) dX4_secondsAt_1) ?_
  refine lv_if_eq (tgt := 16) hx hb dX4_secondsAt_4 (by decide) (fun c3 => ?_) (fun c3 => ?_)
  · have h := ite_t c3 h
    refine lv_iconst (v := (0 : Int32)) hx hb dX4_secondsAt_16 (by decide) ?_
    obtain rfl := pj1 h
    exact hEnd _ _ _ _ hP hS dX4_secondsAt_17 rfl
  have h := ite_f c3 h
  refine lv_aload_n hx hb dX4_secondsAt_7 rfl (lv_at hl 0 rfl) ?_
  refine va_get (D := (dC, dI)) (ci := 3) (v := .ref h_this_seconds) (C := RX4) (T := TX4) (N := 5) hx hb hts inX4 hown hK hP 0 rfl rfl 4 (by decide) (hts _ (kq q_51 rfl)) (fun _ h9 => h9) rfl dX4_secondsAt_8 ?_
  refine lv_iload_n hx hb dX4_secondsAt_11 rfl (lv_at hl 1 rfl) ?_
  obtain ⟨hi4, h⟩ := gi_at h
  refine va_iald hx hb hK hP 1 0 rfl rfl hi4 dX4_secondsAt_12 ?_
  refine lv_goto (tgt := 17) hx hb dX4_secondsAt_13 (by decide) ?_
  obtain rfl := pj1 h
  exact hEnd _ _ _ _ hP hS dX4_secondsAt_17 rfl
noncomputable def fX9_spanIs (N : Nat) (p1 : Int32) (p2 : Int32) (i_this : Int32) (f_this_now_months : Nat → Int32) (f_this_now_days : Nat → Int32) (f_this_now_seconds : Nat → Int32) : Option (Int32) := (bd1 (fX9_isSlot N p1) fun r1 => (if r1 = (0 : Int32) then (some (-2000000000 : Int32)) else (if p2 = (0 : Int32) then (bd1 (fX4_monthsAt N p1 f_this_now_months) fun r5 => (some r5)) else (if p2 = (1 : Int32) then (bd1 (fX4_daysAt N p1 f_this_now_days) fun r8 => (some r8)) else (if p2 = (2 : Int32) then (bd1 (fX4_secondsAt N p1 f_this_now_seconds) fun r11 => (some r11)) else (some (-2000000000 : Int32)))))))
set_option maxHeartbeats 4000000 in
set_option maxRecDepth 100000 in
theorem kX9_spanIs (l : Launch) (dC : Nat → ClassId) (dI : Nat → Nat → Nat) (cI cJ cB : ClassId) (h_this h_this_now h_this_kept h_this_told h_this_text h_this_script h_this_momentReader h_this_spanReader h_this_adder h_this_other h_this_trial h_this_ways h_this_now_day h_this_now_second h_this_now_months h_this_now_days h_this_now_seconds : Nat) (N : Nat) (p1 : Int32) (p2 : Int32) (i_this : Int32) (f_this_now_months : Nat → Int32) (f_this_now_days : Nat → Int32) (f_this_now_seconds : Nat → Int32) (r : Int32) (hf : fX9_spanIs N p1 p2 i_this f_this_now_months f_this_now_days f_this_now_seconds = some r) : MI l yX9_spanIs (kws yX9_spanIs cX9_spanIs 3 (some .int)) (kR 2 41) (dC, dI) (kT cI cJ cB) [.ref h_this, .int p1, .int p2] [cl_X9 h_this h_this_now h_this_kept h_this_told h_this_text h_this_script h_this_momentReader h_this_spanReader h_this_adder h_this_other h_this_trial h_this_ways i_this, cl_X4 h_this_now h_this_now_day h_this_now_second h_this_now_months h_this_now_days h_this_now_seconds, (h_this_now_months, .inl (cI, 8, .inl f_this_now_months)), (h_this_now_days, .inl (cI, 8, .inl f_this_now_days)), (h_this_now_seconds, .inl (cI, 8, .inl f_this_now_seconds))] [cl_X9 h_this h_this_now h_this_kept h_this_told h_this_text h_this_script h_this_momentReader h_this_spanReader h_this_adder h_this_other h_this_trial h_this_ways i_this, cl_X4 h_this_now h_this_now_day h_this_now_second h_this_now_months h_this_now_days h_this_now_seconds, (h_this_now_months, .inl (cI, 8, .inl f_this_now_months)), (h_this_now_days, .inl (cI, 8, .inl f_this_now_days)), (h_this_now_seconds, .inl (cI, 8, .inl f_this_now_seconds))] r := by
  refine MI.of (cc := cX9_spanIs) (maxL := 3) (by decide) (Nat.le_of_ble_eq_true rfl) (fun p e s m args below meth c A Q ls KC hN hK hP hD hA hl hEnd => ?_)
  obtain ⟨hx, hb, hml, hown, hts⟩ := KC
  have hown : s.vm.findClass "DateSpans" = some m.cls := hown
  have hl : lv_has ls 3 [(0, .ref h_this), (1, .int p1), (2, .int p2)] := hl
  have hS : va_S A s.heap s.heap [] := va_S.rf
  have h := hf
  unfold fX9_spanIs at h
  refine lv_iload_n hx hb dX9_spanIs_0 rfl (lv_at hl 1 rfl) ?_
  obtain ⟨r1, hc2, h⟩ := bd1_at h
  refine kjSI (kS0 (own := "DateSpans") (As := [.int p1]) (rest := []) ⟨hx, hb, hml, hown, hts⟩ (kX9_isSlot l N p1 r1 hc2) (kgS (kq q_267 rfl) (kq q_268 rfl) (kq q_18 rfl) (kq q_269 rfl)) yd_X9_isSlot ⟨Nat.le_of_ble_eq_true rfl, Nat.le_of_ble_eq_true rfl⟩ rfl rfl hl.1 rfl (lv_room (Nat.le_of_ble_eq_true rfl)) dX9_spanIs_1) ?_
  refine lv_if_ne (tgt := 10) hx hb dX9_spanIs_4 (by decide) (fun c3 => ?_) (fun c3 => ?_)
  · have h := ite_f c3 h
    refine lv_iload_n hx hb dX9_spanIs_10 rfl (lv_at hl 2 rfl) ?_
    by_cases c4 : p2 = (0 : Int32)
    · have h := ite_t c4 h
      refine lv_tableIn (x := p2) (tgt := 36) hx hb dX9_spanIs_11 (by rw [c4]; decide) (by rw [c4]; decide) (by rw [c4]; rfl) (by decide) ?_
      refine lv_aload_n hx hb dX9_spanIs_36 rfl (lv_at hl 0 rfl) ?_
      refine va_get (D := (dC, dI)) (ci := 8) (v := .ref h_this_now) (C := RX9) (T := TX9) (N := 12) hx hb hts inX9 hown hK hP 0 rfl rfl 0 (by decide) (hts _ (kq q_226 rfl)) (fun _ h9 => h9) rfl dX9_spanIs_37 ?_
      refine lv_iload_n hx hb dX9_spanIs_40 rfl (lv_at hl 1 rfl) ?_
      obtain ⟨r5, hc6, h⟩ := bd1_at h
      refine kjI (kV (own := "DateSpans") (C := "DateSpans$Slots") (b := h_this_now) (As := [.int p1]) (rest := []) ⟨hx, hb, hml, hown, hts⟩ (kX4_monthsAt l dC dI cI cJ cB h_this_now h_this_now_day h_this_now_second h_this_now_months h_this_now_days h_this_now_seconds N p1 f_this_now_months r5 hc6 _) (kgV (kq q_332 rfl) (kq q_333 rfl) (kq q_334 rfl) (kq q_19 rfl) (kq q_335 rfl)) yd_X4_monthsAt ⟨Nat.le_of_ble_eq_true rfl, Nat.le_of_ble_eq_true rfl⟩ hN hK hP hD [1, 2] rfl rfl (ci := 3) rfl rfl rfl rfl rfl hl.1 rfl (lv_room (Nat.le_of_ble_eq_true rfl)) dX9_spanIs_41) hP hD hS hA [1, 2] rfl rfl (fun H locs hP hD hS => ?_)
      have hP : va_P (dC, dI) vwCl [cl_X9 h_this h_this_now h_this_kept h_this_told h_this_text h_this_script h_this_momentReader h_this_spanReader h_this_adder h_this_other h_this_trial h_this_ways i_this, cl_X4 h_this_now h_this_now_day h_this_now_second h_this_now_months h_this_now_days h_this_now_seconds, (h_this_now_months, .inl (cI, 8, .inl f_this_now_months)), (h_this_now_days, .inl (cI, 8, .inl f_this_now_days)), (h_this_now_seconds, .inl (cI, 8, .inl f_this_now_seconds))] H := hP
      have hD : va_D A [cl_X9 h_this h_this_now h_this_kept h_this_told h_this_text h_this_script h_this_momentReader h_this_spanReader h_this_adder h_this_other h_this_trial h_this_ways i_this, cl_X4 h_this_now h_this_now_day h_this_now_second h_this_now_months h_this_now_days h_this_now_seconds, (h_this_now_months, .inl (cI, 8, .inl f_this_now_months)), (h_this_now_days, .inl (cI, 8, .inl f_this_now_days)), (h_this_now_seconds, .inl (cI, 8, .inl f_this_now_seconds))] := hD
      obtain rfl := pj1 h
      exact hEnd _ _ _ _ hP hS dX9_spanIs_44 rfl
    have h := ite_f c4 h
    by_cases c7 : p2 = (1 : Int32)
    · have h := ite_t c7 h
      refine lv_tableIn (x := p2) (tgt := 45) hx hb dX9_spanIs_11 (by rw [c7]; decide) (by rw [c7]; decide) (by rw [c7]; rfl) (by decide) ?_
      refine lv_aload_n hx hb dX9_spanIs_45 rfl (lv_at hl 0 rfl) ?_
      refine va_get (D := (dC, dI)) (ci := 8) (v := .ref h_this_now) (C := RX9) (T := TX9) (N := 12) hx hb hts inX9 hown hK hP 0 rfl rfl 0 (by decide) (hts _ (kq q_226 rfl)) (fun _ h9 => h9) rfl dX9_spanIs_46 ?_
      refine lv_iload_n hx hb dX9_spanIs_49 rfl (lv_at hl 1 rfl) ?_
      obtain ⟨r8, hc9, h⟩ := bd1_at h
      refine kjI (kV (own := "DateSpans") (C := "DateSpans$Slots") (b := h_this_now) (As := [.int p1]) (rest := []) ⟨hx, hb, hml, hown, hts⟩ (kX4_daysAt l dC dI cI cJ cB h_this_now h_this_now_day h_this_now_second h_this_now_months h_this_now_days h_this_now_seconds N p1 f_this_now_days r8 hc9 _) (kgV (kq q_336 rfl) (kq q_337 rfl) (kq q_338 rfl) (kq q_19 rfl) (kq q_339 rfl)) yd_X4_daysAt ⟨Nat.le_of_ble_eq_true rfl, Nat.le_of_ble_eq_true rfl⟩ hN hK hP hD [1, 3] rfl rfl (ci := 3) rfl rfl rfl rfl rfl hl.1 rfl (lv_room (Nat.le_of_ble_eq_true rfl)) dX9_spanIs_50) hP hD hS hA [1, 3] rfl rfl (fun H locs hP hD hS => ?_)
      have hP : va_P (dC, dI) vwCl [cl_X9 h_this h_this_now h_this_kept h_this_told h_this_text h_this_script h_this_momentReader h_this_spanReader h_this_adder h_this_other h_this_trial h_this_ways i_this, cl_X4 h_this_now h_this_now_day h_this_now_second h_this_now_months h_this_now_days h_this_now_seconds, (h_this_now_months, .inl (cI, 8, .inl f_this_now_months)), (h_this_now_days, .inl (cI, 8, .inl f_this_now_days)), (h_this_now_seconds, .inl (cI, 8, .inl f_this_now_seconds))] H := hP
      have hD : va_D A [cl_X9 h_this h_this_now h_this_kept h_this_told h_this_text h_this_script h_this_momentReader h_this_spanReader h_this_adder h_this_other h_this_trial h_this_ways i_this, cl_X4 h_this_now h_this_now_day h_this_now_second h_this_now_months h_this_now_days h_this_now_seconds, (h_this_now_months, .inl (cI, 8, .inl f_this_now_months)), (h_this_now_days, .inl (cI, 8, .inl f_this_now_days)), (h_this_now_seconds, .inl (cI, 8, .inl f_this_now_seconds))] := hD
      obtain rfl := pj1 h
      exact hEnd _ _ _ _ hP hS dX9_spanIs_53 rfl
    have h := ite_f c7 h
    by_cases c10 : p2 = (2 : Int32)
    · have h := ite_t c10 h
      refine lv_tableIn (x := p2) (tgt := 54) hx hb dX9_spanIs_11 (by rw [c10]; decide) (by rw [c10]; decide) (by rw [c10]; rfl) (by decide) ?_
      refine lv_aload_n hx hb dX9_spanIs_54 rfl (lv_at hl 0 rfl) ?_
      refine va_get (D := (dC, dI)) (ci := 8) (v := .ref h_this_now) (C := RX9) (T := TX9) (N := 12) hx hb hts inX9 hown hK hP 0 rfl rfl 0 (by decide) (hts _ (kq q_226 rfl)) (fun _ h9 => h9) rfl dX9_spanIs_55 ?_
      refine lv_iload_n hx hb dX9_spanIs_58 rfl (lv_at hl 1 rfl) ?_
      obtain ⟨r11, hc12, h⟩ := bd1_at h
      refine kjI (kV (own := "DateSpans") (C := "DateSpans$Slots") (b := h_this_now) (As := [.int p1]) (rest := []) ⟨hx, hb, hml, hown, hts⟩ (kX4_secondsAt l dC dI cI cJ cB h_this_now h_this_now_day h_this_now_second h_this_now_months h_this_now_days h_this_now_seconds N p1 f_this_now_seconds r11 hc12 _) (kgV (kq q_340 rfl) (kq q_341 rfl) (kq q_342 rfl) (kq q_19 rfl) (kq q_343 rfl)) yd_X4_secondsAt ⟨Nat.le_of_ble_eq_true rfl, Nat.le_of_ble_eq_true rfl⟩ hN hK hP hD [1, 4] rfl rfl (ci := 3) rfl rfl rfl rfl rfl hl.1 rfl (lv_room (Nat.le_of_ble_eq_true rfl)) dX9_spanIs_59) hP hD hS hA [1, 4] rfl rfl (fun H locs hP hD hS => ?_)
      have hP : va_P (dC, dI) vwCl [cl_X9 h_this h_this_now h_this_kept h_this_told h_this_text h_this_script h_this_momentReader h_this_spanReader h_this_adder h_this_other h_this_trial h_this_ways i_this, cl_X4 h_this_now h_this_now_day h_this_now_second h_this_now_months h_this_now_days h_this_now_seconds, (h_this_now_months, .inl (cI, 8, .inl f_this_now_months)), (h_this_now_days, .inl (cI, 8, .inl f_this_now_days)), (h_this_now_seconds, .inl (cI, 8, .inl f_this_now_seconds))] H := hP
      have hD : va_D A [cl_X9 h_this h_this_now h_this_kept h_this_told h_this_text h_this_script h_this_momentReader h_this_spanReader h_this_adder h_this_other h_this_trial h_this_ways i_this, cl_X4 h_this_now h_this_now_day h_this_now_second h_this_now_months h_this_now_days h_this_now_seconds, (h_this_now_months, .inl (cI, 8, .inl f_this_now_months)), (h_this_now_days, .inl (cI, 8, .inl f_this_now_days)), (h_this_now_seconds, .inl (cI, 8, .inl f_this_now_seconds))] := hD
      obtain rfl := pj1 h
      exact hEnd _ _ _ _ hP hS dX9_spanIs_62 rfl
    have h := ite_f c10 h
    have gc4 := kne (k := 0) (by decide) c4
    have gc7 := kne (k := 1) (by decide) c7
    have gc10 := kne (k := 2) (by decide) c10
    refine lv_tableOut (x := p2) (tgt := 63) hx hb dX9_spanIs_11 (by omega) (by decide) ?_
    refine lv_ldc (v := (-2000000000 : Int32)) hx hb hown (hts _ (kq q_331 rfl)) dX9_spanIs_63 ?_
    obtain rfl := pj1 h
    exact hEnd _ _ _ _ hP hS dX9_spanIs_65 rfl
  have h := ite_t c3 h
  refine lv_ldc (v := (-2000000000 : Int32)) hx hb hown (hts _ (kq q_331 rfl)) dX9_spanIs_7 ?_
  obtain rfl := pj1 h
  exact hEnd _ _ _ _ hP hS dX9_spanIs_9 rfl
noncomputable def fX9_date (N : Nat) (p1 : Int32) (i_this : Int32) : Option (Int32) := (bd1 (fX9_isDay N p1) fun r1 => (if r1 = (0 : Int32) then (some (-1 : Int32)) else (bd1 (fX1_dateOf N p1) fun r4 => (some r4))))
set_option maxHeartbeats 4000000 in
set_option maxRecDepth 100000 in
theorem kX9_date (l : Launch) (dC : Nat → ClassId) (dI : Nat → Nat → Nat) (cI cJ cB : ClassId) (h_this h_this_now h_this_kept h_this_told h_this_text h_this_script h_this_momentReader h_this_spanReader h_this_adder h_this_other h_this_trial h_this_ways : Nat) (N : Nat) (p1 : Int32) (i_this : Int32) (r : Int32) (hf : fX9_date N p1 i_this = some r) : MI l yX9_date (kws yX9_date cX9_date 2 (some .int)) (kR 1 29) (dC, dI) (kT cI cJ cB) [.ref h_this, .int p1] [cl_X9 h_this h_this_now h_this_kept h_this_told h_this_text h_this_script h_this_momentReader h_this_spanReader h_this_adder h_this_other h_this_trial h_this_ways i_this] [cl_X9 h_this h_this_now h_this_kept h_this_told h_this_text h_this_script h_this_momentReader h_this_spanReader h_this_adder h_this_other h_this_trial h_this_ways i_this] r := by
  refine MI.of (cc := cX9_date) (maxL := 2) (by decide) (Nat.le_of_ble_eq_true rfl) (fun p e s m args below meth c A Q ls KC hN hK hP hD hA hl hEnd => ?_)
  obtain ⟨hx, hb, hml, hown, hts⟩ := KC
  have hown : s.vm.findClass "DateSpans" = some m.cls := hown
  have hl : lv_has ls 2 [(0, .ref h_this), (1, .int p1)] := hl
  have hS : va_S A s.heap s.heap [] := va_S.rf
  have h := hf
  unfold fX9_date at h
  refine lv_iload_n hx hb dX9_date_0 rfl (lv_at hl 1 rfl) ?_
  obtain ⟨r1, hc2, h⟩ := bd1_at h
  refine kjSI (kS0 (own := "DateSpans") (As := [.int p1]) (rest := []) ⟨hx, hb, hml, hown, hts⟩ (kX9_isDay l N p1 r1 hc2) (kgS (kq q_270 rfl) (kq q_271 rfl) (kq q_18 rfl) (kq q_272 rfl)) yd_X9_isDay ⟨Nat.le_of_ble_eq_true rfl, Nat.le_of_ble_eq_true rfl⟩ rfl rfl hl.1 rfl (lv_room (Nat.le_of_ble_eq_true rfl)) dX9_date_1) ?_
  refine lv_if_eq (tgt := 14) hx hb dX9_date_4 (by decide) (fun c3 => ?_) (fun c3 => ?_)
  · have h := ite_t c3 h
    refine lv_iconst (v := (-1 : Int32)) hx hb dX9_date_14 (by decide) ?_
    obtain rfl := pj1 h
    exact hEnd _ _ _ _ hP hS dX9_date_15 rfl
  have h := ite_f c3 h
  refine lv_iload_n hx hb dX9_date_7 rfl (lv_at hl 1 rfl) ?_
  obtain ⟨r4, hc5, h⟩ := bd1_at h
  refine kjSI (kS0 (own := "DateSpans") (As := [.int p1]) (rest := []) ⟨hx, hb, hml, hown, hts⟩ (kX1_dateOf l N p1 r4 hc5) (kgS (kq q_304 rfl) (kq q_305 rfl) (kq q_28 rfl) (kq q_306 rfl)) yd_X1_dateOf ⟨Nat.le_of_ble_eq_true rfl, Nat.le_of_ble_eq_true rfl⟩ rfl rfl hl.1 rfl (lv_room (Nat.le_of_ble_eq_true rfl)) dX9_date_8) ?_
  refine lv_goto (tgt := 15) hx hb dX9_date_11 (by decide) ?_
  obtain rfl := pj1 h
  exact hEnd _ _ _ _ hP hS dX9_date_15 rfl
noncomputable def fX1_isYear (N : Nat) (p1 : Int32) : Option (Int32) := (if p1 < (1 : Int32) then (some (0 : Int32)) else (if (9999 : Int32) < p1 then (some (0 : Int32)) else (some (1 : Int32))))
set_option maxHeartbeats 4000000 in
set_option maxRecDepth 100000 in
theorem kX1_isYear (l : Launch) (N : Nat) (p1 : Int32) (r : Int32) (hf : fX1_isYear N p1 = some r) : SI l yX1_isYear (kws yX1_isYear cX1_isYear 1 (some .boolean)) (kR 0 0) [.int p1] r := by
  refine SI.of (cc := cX1_isYear) (maxL := 1) (by decide) (Nat.le_of_ble_eq_true rfl) (fun p e s m args below meth c Q ls KC hl hEnd => ?_)
  obtain ⟨hx, hb, hml, hown, hts⟩ := KC
  have hown : s.vm.findClass "DateSpans$Calendar" = some m.cls := hown
  have hl : lv_has ls 1 [(0, .int p1)] := hl
  have h := hf
  unfold fX1_isYear at h
  refine lv_iload_n hx hb dX1_isYear_0 rfl (lv_at hl 0 rfl) ?_
  refine lv_iconst (v := (1 : Int32)) hx hb dX1_isYear_1 (by decide) ?_
  refine lv_icmp_lt (tgt := 16) hx hb dX1_isYear_2 (by decide) (fun c1 => ?_) (fun c1 => ?_)
  · have h := ite_t c1 h
    refine lv_iconst (v := (0 : Int32)) hx hb dX1_isYear_16 (by decide) ?_
    obtain rfl := pj1 h
    exact hEnd _ _ dX1_isYear_17 rfl
  have h := ite_f c1 h
  refine lv_iload_n hx hb dX1_isYear_5 rfl (lv_at hl 0 rfl) ?_
  refine lv_sipush (v := (9999 : Int32)) hx hb dX1_isYear_6 (by decide) ?_
  refine lv_icmp_gt (tgt := 16) hx hb dX1_isYear_9 (by decide) (fun c2 => ?_) (fun c2 => ?_)
  · have h := ite_t c2 h
    refine lv_iconst (v := (0 : Int32)) hx hb dX1_isYear_16 (by decide) ?_
    obtain rfl := pj1 h
    exact hEnd _ _ dX1_isYear_17 rfl
  have h := ite_f c2 h
  refine lv_iconst (v := (1 : Int32)) hx hb dX1_isYear_12 (by decide) ?_
  refine lv_goto (tgt := 17) hx hb dX1_isYear_13 (by decide) ?_
  obtain rfl := pj1 h
  exact hEnd _ _ dX1_isYear_17 rfl
noncomputable def fX1_isMonth (N : Nat) (p1 : Int32) : Option (Int32) := (if p1 < (1 : Int32) then (some (0 : Int32)) else (if (12 : Int32) < p1 then (some (0 : Int32)) else (some (1 : Int32))))
set_option maxHeartbeats 4000000 in
set_option maxRecDepth 100000 in
theorem kX1_isMonth (l : Launch) (N : Nat) (p1 : Int32) (r : Int32) (hf : fX1_isMonth N p1 = some r) : SI l yX1_isMonth (kws yX1_isMonth cX1_isMonth 1 (some .boolean)) (kR 0 0) [.int p1] r := by
  refine SI.of (cc := cX1_isMonth) (maxL := 1) (by decide) (Nat.le_of_ble_eq_true rfl) (fun p e s m args below meth c Q ls KC hl hEnd => ?_)
  obtain ⟨hx, hb, hml, hown, hts⟩ := KC
  have hown : s.vm.findClass "DateSpans$Calendar" = some m.cls := hown
  have hl : lv_has ls 1 [(0, .int p1)] := hl
  have h := hf
  unfold fX1_isMonth at h
  refine lv_iload_n hx hb dX1_isMonth_0 rfl (lv_at hl 0 rfl) ?_
  refine lv_iconst (v := (1 : Int32)) hx hb dX1_isMonth_1 (by decide) ?_
  refine lv_icmp_lt (tgt := 15) hx hb dX1_isMonth_2 (by decide) (fun c1 => ?_) (fun c1 => ?_)
  · have h := ite_t c1 h
    refine lv_iconst (v := (0 : Int32)) hx hb dX1_isMonth_15 (by decide) ?_
    obtain rfl := pj1 h
    exact hEnd _ _ dX1_isMonth_16 rfl
  have h := ite_f c1 h
  refine lv_iload_n hx hb dX1_isMonth_5 rfl (lv_at hl 0 rfl) ?_
  refine lv_bipush (v := (12 : Int32)) hx hb dX1_isMonth_6 (by decide) ?_
  refine lv_icmp_gt (tgt := 15) hx hb dX1_isMonth_8 (by decide) (fun c2 => ?_) (fun c2 => ?_)
  · have h := ite_t c2 h
    refine lv_iconst (v := (0 : Int32)) hx hb dX1_isMonth_15 (by decide) ?_
    obtain rfl := pj1 h
    exact hEnd _ _ dX1_isMonth_16 rfl
  have h := ite_f c2 h
  refine lv_iconst (v := (1 : Int32)) hx hb dX1_isMonth_11 (by decide) ?_
  refine lv_goto (tgt := 16) hx hb dX1_isMonth_12 (by decide) ?_
  obtain rfl := pj1 h
  exact hEnd _ _ dX1_isMonth_16 rfl
noncomputable def fX9_day (N : Nat) (p1 : Int32) (i_this : Int32) : Option (Int32) := (if (0 : Int32) ≤ p1 then (nm (p1 / (10000 : Int32)) fun z2 => (nm ((p1 / (100 : Int32)) - (p1 / (100 : Int32)) / (100 : Int32) * (100 : Int32)) fun z3 => (nm (p1 - p1 / (100 : Int32) * (100 : Int32)) fun z4 => (bd1 (fX1_isYear N z2) fun r5 => (if r5 = (0 : Int32) then (some (-2 : Int32)) else (bd1 (fX1_isMonth N z3) fun r8 => (if r8 = (0 : Int32) then (some (-2 : Int32)) else (if z4 < (1 : Int32) then (some (-2 : Int32)) else (bd1 (fX1_monthLength N z2 z3) fun r12 => (if z4 ≤ r12 then (bd1 (fX1_dayOf N z2 z3 z4) fun r15 => (some r15)) else (some (-2 : Int32)))))))))))) else (some (-2 : Int32)))
set_option maxHeartbeats 4000000 in
set_option maxRecDepth 100000 in
theorem kX9_day (l : Launch) (dC : Nat → ClassId) (dI : Nat → Nat → Nat) (cI cJ cB : ClassId) (h_this h_this_now h_this_kept h_this_told h_this_text h_this_script h_this_momentReader h_this_spanReader h_this_adder h_this_other h_this_trial h_this_ways : Nat) (N : Nat) (p1 : Int32) (i_this : Int32) (r : Int32) (hf : fX9_day N p1 i_this = some r) : MI l yX9_day (kws yX9_day cX9_day 5 (some .int)) (kR 2 41) (dC, dI) (kT cI cJ cB) [.ref h_this, .int p1] [cl_X9 h_this h_this_now h_this_kept h_this_told h_this_text h_this_script h_this_momentReader h_this_spanReader h_this_adder h_this_other h_this_trial h_this_ways i_this] [cl_X9 h_this h_this_now h_this_kept h_this_told h_this_text h_this_script h_this_momentReader h_this_spanReader h_this_adder h_this_other h_this_trial h_this_ways i_this] r := by
  refine MI.of (cc := cX9_day) (maxL := 5) (by decide) (Nat.le_of_ble_eq_true rfl) (fun p e s m args below meth c A Q ls KC hN hK hP hD hA hl hEnd => ?_)
  obtain ⟨hx, hb, hml, hown, hts⟩ := KC
  have hown : s.vm.findClass "DateSpans" = some m.cls := hown
  have hl : lv_has ls 5 [(0, .ref h_this), (1, .int p1)] := hl
  have hS : va_S A s.heap s.heap [] := va_S.rf
  have h := hf
  unfold fX9_day at h
  refine lv_iload_n hx hb dX9_day_0 rfl (lv_at hl 1 rfl) ?_
  refine lv_if_ge (tgt := 7) hx hb dX9_day_1 (by decide) (fun c1 => ?_) (fun c1 => ?_)
  · have h := ite_t c1 h
    refine lv_iload_n hx hb dX9_day_7 rfl (lv_at hl 1 rfl) ?_
    refine lv_sipush (v := (10000 : Int32)) hx hb dX9_day_8 (by decide) ?_
    refine lv_idiv hx hb dX9_day_11 (by decide) ?_
    refine lv_topi (fun z2 ez2 => ?_)
    have h := nm_at ez2 h
    refine lv_istore_n (lv' := [(2, .int z2), (0, .ref h_this), (1, .int p1)]) hx hb dX9_day_12 rfl hl (by decide) rfl (fun ls hl => ?_)
    refine lv_iload_n hx hb dX9_day_13 rfl (lv_at hl 2 rfl) ?_
    refine lv_bipush (v := (100 : Int32)) hx hb dX9_day_14 (by decide) ?_
    refine lv_idiv hx hb dX9_day_16 (by decide) ?_
    refine lv_bipush (v := (100 : Int32)) hx hb dX9_day_17 (by decide) ?_
    refine lv_irem hx hb dX9_day_19 (by decide) ?_
    refine lv_topi (fun z3 ez3 => ?_)
    have h := nm_at ez3 h
    refine lv_istore_n (lv' := [(3, .int z3), (2, .int z2), (0, .ref h_this), (1, .int p1)]) hx hb dX9_day_20 rfl hl (by decide) rfl (fun ls hl => ?_)
    refine lv_iload_n hx hb dX9_day_21 rfl (lv_at hl 3 rfl) ?_
    refine lv_bipush (v := (100 : Int32)) hx hb dX9_day_22 (by decide) ?_
    refine lv_irem hx hb dX9_day_24 (by decide) ?_
    refine lv_topi (fun z4 ez4 => ?_)
    have h := nm_at ez4 h
    refine lv_istore (lv' := [(4, .int z4), (3, .int z3), (2, .int z2), (0, .ref h_this), (1, .int p1)]) hx hb dX9_day_25 hl (by decide) rfl (fun ls hl => ?_)
    refine lv_iload_n hx hb dX9_day_27 rfl (lv_at hl 2 rfl) ?_
    obtain ⟨r5, hc6, h⟩ := bd1_at h
    refine kjSI (kS0 (own := "DateSpans") (As := [.int z2]) (rest := []) ⟨hx, hb, hml, hown, hts⟩ (kX1_isYear l N z2 r5 hc6) (kgS (kq q_506 rfl) (kq q_507 rfl) (kq q_28 rfl) (kq q_508 rfl)) yd_X1_isYear ⟨Nat.le_of_ble_eq_true rfl, Nat.le_of_ble_eq_true rfl⟩ rfl rfl hl.1 rfl (lv_room (Nat.le_of_ble_eq_true rfl)) dX9_day_28) ?_
    refine lv_if_eq (tgt := 57) hx hb dX9_day_31 (by decide) (fun c7 => ?_) (fun c7 => ?_)
    · have h := ite_t c7 h
      refine lv_bipush (v := (-2 : Int32)) hx hb dX9_day_57 (by decide) ?_
      obtain rfl := pj1 h
      exact hEnd _ _ _ _ hP hS dX9_day_59 rfl
    have h := ite_f c7 h
    refine lv_iload_n hx hb dX9_day_34 rfl (lv_at hl 1 rfl) ?_
    obtain ⟨r8, hc9, h⟩ := bd1_at h
    refine kjSI (kS0 (own := "DateSpans") (As := [.int z3]) (rest := []) ⟨hx, hb, hml, hown, hts⟩ (kX1_isMonth l N z3 r8 hc9) (kgS (kq q_509 rfl) (kq q_510 rfl) (kq q_28 rfl) (kq q_511 rfl)) yd_X1_isMonth ⟨Nat.le_of_ble_eq_true rfl, Nat.le_of_ble_eq_true rfl⟩ rfl rfl hl.1 rfl (lv_room (Nat.le_of_ble_eq_true rfl)) dX9_day_35) ?_
    refine lv_if_eq (tgt := 57) hx hb dX9_day_38 (by decide) (fun c10 => ?_) (fun c10 => ?_)
    · have h := ite_t c10 h
      refine lv_bipush (v := (-2 : Int32)) hx hb dX9_day_57 (by decide) ?_
      obtain rfl := pj1 h
      exact hEnd _ _ _ _ hP hS dX9_day_59 rfl
    have h := ite_f c10 h
    refine lv_iload hx hb dX9_day_41 (lv_at hl 0 rfl) ?_
    refine lv_iconst (v := (1 : Int32)) hx hb dX9_day_43 (by decide) ?_
    refine lv_icmp_lt (tgt := 57) hx hb dX9_day_44 (by decide) (fun c11 => ?_) (fun c11 => ?_)
    · have h := ite_t c11 h
      refine lv_bipush (v := (-2 : Int32)) hx hb dX9_day_57 (by decide) ?_
      obtain rfl := pj1 h
      exact hEnd _ _ _ _ hP hS dX9_day_59 rfl
    have h := ite_f c11 h
    refine lv_iload hx hb dX9_day_47 (lv_at hl 0 rfl) ?_
    refine lv_iload_n hx hb dX9_day_49 rfl (lv_at hl 2 rfl) ?_
    refine lv_iload_n hx hb dX9_day_50 rfl (lv_at hl 1 rfl) ?_
    obtain ⟨r12, hc13, h⟩ := bd1_at h
    refine kjSI (kS0 (own := "DateSpans") (As := [.int z2, .int z3]) (rest := [.int z4]) ⟨hx, hb, hml, hown, hts⟩ (kX1_monthLength l N z2 z3 r12 hc13) (kgS (kq q_320 rfl) (kq q_321 rfl) (kq q_28 rfl) (kq q_322 rfl)) yd_X1_monthLength ⟨Nat.le_of_ble_eq_true rfl, Nat.le_of_ble_eq_true rfl⟩ rfl rfl hl.1 rfl (lv_room (Nat.le_of_ble_eq_true rfl)) dX9_day_51) ?_
    refine lv_icmp_le (tgt := 60) hx hb dX9_day_54 (by decide) (fun c14 => ?_) (fun c14 => ?_)
    · have h := ite_t c14 h
      refine lv_iload_n hx hb dX9_day_60 rfl (lv_at hl 2 rfl) ?_
      refine lv_iload_n hx hb dX9_day_61 rfl (lv_at hl 1 rfl) ?_
      refine lv_iload hx hb dX9_day_62 (lv_at hl 0 rfl) ?_
      obtain ⟨r15, hc16, h⟩ := bd1_at h
      refine kjSI (kS0 (own := "DateSpans") (As := [.int z2, .int z3, .int z4]) (rest := []) ⟨hx, hb, hml, hown, hts⟩ (kX1_dayOf l N z2 z3 z4 r15 hc16) (kgS (kq q_317 rfl) (kq q_318 rfl) (kq q_28 rfl) (kq q_319 rfl)) yd_X1_dayOf ⟨Nat.le_of_ble_eq_true rfl, Nat.le_of_ble_eq_true rfl⟩ rfl rfl hl.1 rfl (lv_room (Nat.le_of_ble_eq_true rfl)) dX9_day_64) ?_
      obtain rfl := pj1 h
      exact hEnd _ _ _ _ hP hS dX9_day_67 rfl
    have h := ite_f c14 h
    refine lv_bipush (v := (-2 : Int32)) hx hb dX9_day_57 (by decide) ?_
    obtain rfl := pj1 h
    exact hEnd _ _ _ _ hP hS dX9_day_59 rfl
  have h := ite_f c1 h
  refine lv_bipush (v := (-2 : Int32)) hx hb dX9_day_4 (by decide) ?_
  obtain rfl := pj1 h
  exact hEnd _ _ _ _ hP hS dX9_day_6 rfl
noncomputable def fX9_week (N : Nat) (p1 : Int32) (i_this : Int32) (i_this_told : Int32) (f_this_told_numbers : Nat → Int64) : Option (Int32 × Int32 × (Nat → Int64)) := (bd1 (fX9_isDay N p1) fun r1 => (if r1 = (0 : Int32) then (some ((-1 : Int32), i_this_told, f_this_told_numbers)) else (bd1 (fX1_weekdayOf N p1) fun r4 => (nm ((p1 - r4) + (3 : Int32)) fun z6 => (bd1 (fX1_dateOf N z6) fun r7 => (nm (r7 / (10000 : Int32)) fun z9 => (bd2 (fX3_tell N z9.toInt64 i_this_told f_this_told_numbers) fun i_this_told_10 f_this_told_numbers_11 => (bd1 (fX1_dayOf N z9 (1 : Int32) (1 : Int32)) fun r13 => (some ((((z6 - r13) / (7 : Int32)) + (1 : Int32)), i_this_told_10, f_this_told_numbers_11))))))))))
set_option maxHeartbeats 4000000 in
set_option maxRecDepth 100000 in
theorem kX9_week (l : Launch) (dC : Nat → ClassId) (dI : Nat → Nat → Nat) (cI cJ cB : ClassId) (h_this h_this_now h_this_kept h_this_told h_this_text h_this_script h_this_momentReader h_this_spanReader h_this_adder h_this_other h_this_trial h_this_ways h_this_told_numbers : Nat) (N : Nat) (p1 : Int32) (i_this : Int32) (i_this_told : Int32) (f_this_told_numbers : Nat → Int64) (r : Int32) (o_i_this_told : Int32) (o_f_this_told_numbers : Nat → Int64) (hf : fX9_week N p1 i_this i_this_told f_this_told_numbers = some (r, o_i_this_told, o_f_this_told_numbers)) : MI l yX9_week (kws yX9_week cX9_week 4 (some .int)) (kR 2 44) (dC, dI) (kT cI cJ cB) [.ref h_this, .int p1] [cl_X9 h_this h_this_now h_this_kept h_this_told h_this_text h_this_script h_this_momentReader h_this_spanReader h_this_adder h_this_other h_this_trial h_this_ways i_this, cl_X3 h_this_told h_this_told_numbers i_this_told, (h_this_told_numbers, .inl (cJ, 8, .inr (.inl f_this_told_numbers)))] [cl_X9 h_this h_this_now h_this_kept h_this_told h_this_text h_this_script h_this_momentReader h_this_spanReader h_this_adder h_this_other h_this_trial h_this_ways i_this, cl_X3 h_this_told h_this_told_numbers o_i_this_told, (h_this_told_numbers, .inl (cJ, 8, .inr (.inl o_f_this_told_numbers)))] r := by
  refine MI.of (cc := cX9_week) (maxL := 4) (by decide) (Nat.le_of_ble_eq_true rfl) (fun p e s m args below meth c A Q ls KC hN hK hP hD hA hl hEnd => ?_)
  obtain ⟨hx, hb, hml, hown, hts⟩ := KC
  have hown : s.vm.findClass "DateSpans" = some m.cls := hown
  have hl : lv_has ls 4 [(0, .ref h_this), (1, .int p1)] := hl
  have hS : va_S A s.heap s.heap [] := va_S.rf
  have h := hf
  unfold fX9_week at h
  refine lv_iload_n hx hb dX9_week_0 rfl (lv_at hl 1 rfl) ?_
  obtain ⟨r1, hc2, h⟩ := bd1_at h
  refine kjSI (kS0 (own := "DateSpans") (As := [.int p1]) (rest := []) ⟨hx, hb, hml, hown, hts⟩ (kX9_isDay l N p1 r1 hc2) (kgS (kq q_270 rfl) (kq q_271 rfl) (kq q_18 rfl) (kq q_272 rfl)) yd_X9_isDay ⟨Nat.le_of_ble_eq_true rfl, Nat.le_of_ble_eq_true rfl⟩ rfl rfl hl.1 rfl (lv_room (Nat.le_of_ble_eq_true rfl)) dX9_week_1) ?_
  refine lv_if_ne (tgt := 9) hx hb dX9_week_4 (by decide) (fun c3 => ?_) (fun c3 => ?_)
  · have h := ite_f c3 h
    refine lv_iload_n hx hb dX9_week_9 rfl (lv_at hl 1 rfl) ?_
    refine lv_iload_n hx hb dX9_week_10 rfl (lv_at hl 1 rfl) ?_
    obtain ⟨r4, hc5, h⟩ := bd1_at h
    refine kjSI (kS0 (own := "DateSpans") (As := [.int p1]) (rest := [.int p1]) ⟨hx, hb, hml, hown, hts⟩ (kX1_weekdayOf l N p1 r4 hc5) (kgS (kq q_314 rfl) (kq q_315 rfl) (kq q_28 rfl) (kq q_316 rfl)) yd_X1_weekdayOf ⟨Nat.le_of_ble_eq_true rfl, Nat.le_of_ble_eq_true rfl⟩ rfl rfl hl.1 rfl (lv_room (Nat.le_of_ble_eq_true rfl)) dX9_week_11) ?_
    refine lv_isub hx hb dX9_week_14 ?_
    refine lv_iconst (v := (3 : Int32)) hx hb dX9_week_15 (by decide) ?_
    refine lv_iadd hx hb dX9_week_16 ?_
    refine lv_topi (fun z6 ez6 => ?_)
    have h := nm_at ez6 h
    refine lv_istore_n (lv' := [(2, .int z6), (0, .ref h_this), (1, .int p1)]) hx hb dX9_week_17 rfl hl (by decide) rfl (fun ls hl => ?_)
    refine lv_iload_n hx hb dX9_week_18 rfl (lv_at hl 0 rfl) ?_
    obtain ⟨r7, hc8, h⟩ := bd1_at h
    refine kjSI (kS0 (own := "DateSpans") (As := [.int z6]) (rest := []) ⟨hx, hb, hml, hown, hts⟩ (kX1_dateOf l N z6 r7 hc8) (kgS (kq q_304 rfl) (kq q_305 rfl) (kq q_28 rfl) (kq q_306 rfl)) yd_X1_dateOf ⟨Nat.le_of_ble_eq_true rfl, Nat.le_of_ble_eq_true rfl⟩ rfl rfl hl.1 rfl (lv_room (Nat.le_of_ble_eq_true rfl)) dX9_week_19) ?_
    refine lv_sipush (v := (10000 : Int32)) hx hb dX9_week_22 (by decide) ?_
    refine lv_idiv hx hb dX9_week_25 (by decide) ?_
    refine lv_topi (fun z9 ez9 => ?_)
    have h := nm_at ez9 h
    refine lv_istore_n (lv' := [(3, .int z9), (2, .int z6), (0, .ref h_this), (1, .int p1)]) hx hb dX9_week_26 rfl hl (by decide) rfl (fun ls hl => ?_)
    refine lv_aload_n hx hb dX9_week_27 rfl (lv_at hl 2 rfl) ?_
    refine va_get (D := (dC, dI)) (ci := 8) (v := .ref h_this_told) (C := RX9) (T := TX9) (N := 12) hx hb hts inX9 hown hK hP 0 rfl rfl 3 (by decide) (hts _ (kq q_229 rfl)) (fun _ h9 => h9) rfl dX9_week_28 ?_
    refine lv_iload_n hx hb dX9_week_31 rfl (lv_at hl 0 rfl) ?_
    refine lv_i2l hx hb dX9_week_32 rfl ?_
    obtain ⟨i_this_told_10, f_this_told_numbers_11, hc12, h⟩ := bd2_at h
    refine kjV (kV (own := "DateSpans") (C := "DateSpans$Row") (b := h_this_told) (As := [.long z9.toInt64]) (rest := []) ⟨hx, hb, hml, hown, hts⟩ (kX3_tell l dC dI cI cJ cB h_this_told h_this_told_numbers N z9.toInt64 i_this_told f_this_told_numbers i_this_told_10 f_this_told_numbers_11 hc12 _) (kgV (kq q_528 rfl) (kq q_423 rfl) (kq q_424 rfl) (kq q_20 rfl) (kq q_425 rfl)) yd_X3_tell ⟨Nat.le_of_ble_eq_true rfl, Nat.le_of_ble_eq_true rfl⟩ hN hK hP hD [1, 2] rfl rfl (ci := 2) rfl rfl rfl rfl rfl hl.1 rfl (lv_room (Nat.le_of_ble_eq_true rfl)) dX9_week_33) hP hD hS hA [1, 2] rfl rfl (fun H locs hP hD hS => ?_)
    have hP : va_P (dC, dI) vwCl [cl_X9 h_this h_this_now h_this_kept h_this_told h_this_text h_this_script h_this_momentReader h_this_spanReader h_this_adder h_this_other h_this_trial h_this_ways i_this, cl_X3 h_this_told h_this_told_numbers i_this_told_10, (h_this_told_numbers, .inl (cJ, 8, .inr (.inl f_this_told_numbers_11)))] H := hP
    have hD : va_D A [cl_X9 h_this h_this_now h_this_kept h_this_told h_this_text h_this_script h_this_momentReader h_this_spanReader h_this_adder h_this_other h_this_trial h_this_ways i_this, cl_X3 h_this_told h_this_told_numbers i_this_told_10, (h_this_told_numbers, .inl (cJ, 8, .inr (.inl f_this_told_numbers_11)))] := hD
    refine lv_iload_n hx hb dX9_week_36 rfl (lv_at hl 1 rfl) ?_
    refine lv_iload_n hx hb dX9_week_37 rfl (lv_at hl 0 rfl) ?_
    refine lv_iconst (v := (1 : Int32)) hx hb dX9_week_38 (by decide) ?_
    refine lv_iconst (v := (1 : Int32)) hx hb dX9_week_39 (by decide) ?_
    obtain ⟨r13, hc14, h⟩ := bd1_at h
    refine kjSI (kS0 (own := "DateSpans") (As := [.int z9, .int (1 : Int32), .int (1 : Int32)]) (rest := [.int z6]) ⟨hx, hb, hml, hown, hts⟩ (kX1_dayOf l N z9 (1 : Int32) (1 : Int32) r13 hc14) (kgS (kq q_317 rfl) (kq q_318 rfl) (kq q_28 rfl) (kq q_319 rfl)) yd_X1_dayOf ⟨Nat.le_of_ble_eq_true rfl, Nat.le_of_ble_eq_true rfl⟩ rfl rfl hl.1 rfl (lv_room (Nat.le_of_ble_eq_true rfl)) dX9_week_40) ?_
    refine lv_isub hx hb dX9_week_43 ?_
    refine lv_bipush (v := (7 : Int32)) hx hb dX9_week_44 (by decide) ?_
    refine lv_idiv hx hb dX9_week_46 (by decide) ?_
    refine lv_iconst (v := (1 : Int32)) hx hb dX9_week_47 (by decide) ?_
    refine lv_iadd hx hb dX9_week_48 ?_
    obtain ⟨rfl, rfl, rfl⟩ := pj3 h
    exact hEnd _ _ _ _ hP hS dX9_week_49 rfl
  have h := ite_t c3 h
  refine lv_iconst (v := (-1 : Int32)) hx hb dX9_week_7 (by decide) ?_
  obtain ⟨rfl, rfl, rfl⟩ := pj3 h
  exact hEnd _ _ _ _ hP hS dX9_week_8 rfl
