noncomputable def fX10_floors_j143 (N : Nat) (j_this : Nat → Int64) (v3 : Int32) (v4 : Int64) (v6 : Int32) (v7 : Int32) (i_this : Nat → Int32) (f_this_dayAt : Nat → Int32) (f_this_secondAt : Nat → Int32) (f_this_row : Nat → Int64) : Option (Int32 × (Nat → Int32) × (Nat → Int32) × (Nat → Int32) × (Nat → Int64)) := (bd1 (fX10_stands N v6 v7 i_this j_this) fun i_this_1 => (bd2 (fX10_comesTo N v3 i_this_1 j_this f_this_dayAt f_this_secondAt) fun f_this_dayAt_3 f_this_secondAt_4 => (bd2 (fX10_tell N v7.toInt64 (upd i_this_1 8 (0 : Int32)) j_this f_this_row) fun i_this_6 f_this_row_7 => (bd1 (fX10_instant N i_this_6 j_this) fun r9 => (bd2 (fX10_tell N (v4 - r9) i_this_6 j_this f_this_row_7) fun i_this_11 f_this_row_12 => (some (v6, i_this_11, f_this_dayAt_3, f_this_secondAt_4, f_this_row_12)))))))
noncomputable def fX10_floors_j129 (N : Nat) (j_this : Nat → Int64) (v2 : Int32) (v3 : Int32) (v4 : Int64) (v6 : Int32) (v7 : Int32) (i_this : Nat → Int32) (f_this_dayAt : Nat → Int32) (f_this_secondAt : Nat → Int32) (f_this_row : Nat → Int64) : Option (Int32 × (Nat → Int32) × (Nat → Int32) × (Nat → Int32) × (Nat → Int64)) := (if v2 = (5 : Int32) then (bd1 (fX10_yearBegins N (i_this 10)) fun r15 => (fX10_floors_j143 N j_this v3 v4 r15 v7 i_this f_this_dayAt f_this_secondAt f_this_row)) else (fX10_floors_j143 N j_this v3 v4 v6 v7 i_this f_this_dayAt f_this_secondAt f_this_row))
noncomputable def fX10_floors_j113 (N : Nat) (j_this : Nat → Int64) (v2 : Int32) (v3 : Int32) (v4 : Int64) (v6 : Int32) (v7 : Int32) (i_this : Nat → Int32) (f_this_dayAt : Nat → Int32) (f_this_secondAt : Nat → Int32) (f_this_row : Nat → Int64) : Option (Int32 × (Nat → Int32) × (Nat → Int32) × (Nat → Int32) × (Nat → Int64)) := (if v2 = (4 : Int32) then (nm (v6 - ((i_this 12) - (1 : Int32))) fun z18 => (fX10_floors_j129 N j_this v2 v3 v4 z18 v7 i_this f_this_dayAt f_this_secondAt f_this_row)) else (fX10_floors_j129 N j_this v2 v3 v4 v6 v7 i_this f_this_dayAt f_this_secondAt f_this_row))
noncomputable def fX10_floors_j90 (N : Nat) (j_this : Nat → Int64) (v2 : Int32) (v3 : Int32) (v4 : Int64) (v6 : Int32) (t0 : Int32) (i_this : Nat → Int32) (f_this_dayAt : Nat → Int32) (f_this_secondAt : Nat → Int32) (f_this_row : Nat → Int64) : Option (Int32 × (Nat → Int32) × (Nat → Int32) × (Nat → Int32) × (Nat → Int64)) := (bd1 (fX10_dates N v6 i_this j_this) fun i_this_19 => (if v2 = (3 : Int32) then (nm (v6 - (v6 - v6 / (7 : Int32) * (7 : Int32))) fun z22 => (fX10_floors_j113 N j_this v2 v3 v4 z22 t0 i_this_19 f_this_dayAt f_this_secondAt f_this_row)) else (fX10_floors_j113 N j_this v2 v3 v4 v6 t0 i_this_19 f_this_dayAt f_this_secondAt f_this_row)))
noncomputable def fX10_floors (N : Nat) (p1 : Int32) (p2 : Int32) (p3 : Int32) (i_this : Nat → Int32) (j_this : Nat → Int64) (f_this_dayAt : Nat → Int32) (f_this_secondAt : Nat → Int32) (f_this_row : Nat → Int64) : Option (Int32 × (Nat → Int32) × (Nat → Int32) × (Nat → Int32) × (Nat → Int64)) := (bd1 (fX10_isSlot N p1) fun r23 => (if r23 = (0 : Int32) then (some ((-1 : Int32), (upd i_this 9 (0 : Int32)), f_this_dayAt, f_this_secondAt, f_this_row)) else (bd1 (fX10_in N p2.toInt64 (0 : Int64) (5 : Int64)) fun r26 => (if r26 = (0 : Int32) then (some ((-1 : Int32), (upd i_this 9 (0 : Int32)), f_this_dayAt, f_this_secondAt, f_this_row)) else (bd1 (fX10_isSlot N p3) fun r29 => (if r29 = (0 : Int32) then (some ((-1 : Int32), (upd i_this 9 (0 : Int32)), f_this_dayAt, f_this_secondAt, f_this_row)) else (bd1 (fX10_instantOf N p1 (upd i_this 9 (0 : Int32)) j_this f_this_dayAt f_this_secondAt) fun r32 => (gi p1 8 (nm (f_this_dayAt p1.toNatClampNeg) fun z35 => (if p2 = (0 : Int32) then (gi p1 8 (fX10_floors_j90 N j_this p2 p3 r32 z35 (((f_this_secondAt p1.toNatClampNeg) / (60 : Int32)) * (60 : Int32)) (upd i_this 9 (0 : Int32)) f_this_dayAt f_this_secondAt f_this_row)) else (if p2 = (1 : Int32) then (gi p1 8 (fX10_floors_j90 N j_this p2 p3 r32 z35 (((f_this_secondAt p1.toNatClampNeg) / (3600 : Int32)) * (3600 : Int32)) (upd i_this 9 (0 : Int32)) f_this_dayAt f_this_secondAt f_this_row)) else (fX10_floors_j90 N j_this p2 p3 r32 z35 (0 : Int32) (upd i_this 9 (0 : Int32)) f_this_dayAt f_this_secondAt f_this_row))))))))))))
set_option maxHeartbeats 4000000 in
set_option maxRecDepth 100000 in
theorem kX10_floors (l : Launch) (dC : Nat → ClassId) (dI : Nat → Nat → Nat) (cI cJ cB : ClassId) (h_this h_this_dayAt h_this_secondAt h_this_spans h_this_kept h_this_text h_this_row h_this_read h_this_many h_this_first h_this_lengths h_this_page : Nat) (N : Nat) (p1 : Int32) (p2 : Int32) (p3 : Int32) (i_this : Nat → Int32) (j_this : Nat → Int64) (f_this_dayAt : Nat → Int32) (f_this_secondAt : Nat → Int32) (f_this_row : Nat → Int64) (r : Int32) (o_i_this : Nat → Int32) (o_f_this_dayAt : Nat → Int32) (o_f_this_secondAt : Nat → Int32) (o_f_this_row : Nat → Int64) (hf : fX10_floors N p1 p2 p3 i_this j_this f_this_dayAt f_this_secondAt f_this_row = some (r, o_i_this, o_f_this_dayAt, o_f_this_secondAt, o_f_this_row)) : MI l yX10_floors (kws yX10_floors cX10_floors 8 (some .int)) (kR 3 66) (dC, dI) (kT cI cJ cB) [.ref h_this, .int p1, .int p2, .int p3] [cl_X10 h_this h_this_dayAt h_this_secondAt h_this_spans h_this_kept h_this_text h_this_row h_this_read h_this_many h_this_first h_this_lengths h_this_page i_this j_this, (h_this_dayAt, .inl (cI, 8, .inl f_this_dayAt)), (h_this_secondAt, .inl (cI, 8, .inl f_this_secondAt)), (h_this_row, .inl (cJ, 16, .inr (.inl f_this_row)))] [cl_X10 h_this h_this_dayAt h_this_secondAt h_this_spans h_this_kept h_this_text h_this_row h_this_read h_this_many h_this_first h_this_lengths h_this_page o_i_this j_this, (h_this_dayAt, .inl (cI, 8, .inl o_f_this_dayAt)), (h_this_secondAt, .inl (cI, 8, .inl o_f_this_secondAt)), (h_this_row, .inl (cJ, 16, .inr (.inl o_f_this_row)))] r := by
  refine MI.of (cc := cX10_floors) (maxL := 8) (by decide) (Nat.le_of_ble_eq_true rfl) (fun p e s m args below meth c A Q ls KC hN hK hP hD hA hl hEnd => ?_)
  obtain ⟨hx, hb, hml, hown, hts⟩ := KC
  have hown : s.vm.findClass "DateSpansModel" = some m.cls := hown
  have hl : lv_has ls 8 [(0, .ref h_this), (1, .int p1), (2, .int p2), (3, .int p3)] := hl
  have hS : va_S A s.heap s.heap [] := va_S.rf
  have JN_143 : ∀ (v3 : Int32) (v4 : Int64) (v6 : Int32) (v7 : Int32) (i_this : Nat → Int32) (f_this_dayAt : Nat → Int32) (f_this_secondAt : Nat → Int32) (f_this_row : Nat → Int64) (ls : Array Slot) (H : Heap) (locs : List Loc), (fX10_floors_j143 N j_this) v3 v4 v6 v7 i_this f_this_dayAt f_this_secondAt f_this_row = some (r, o_i_this, o_f_this_dayAt, o_f_this_secondAt, o_f_this_row) → lv_has ls 8 [(0, .ref h_this), (3, .int v3), (4, .long v4), (6, .int v6), (7, .int v7)] → va_P (dC, dI) vwCl [cl_X10 h_this h_this_dayAt h_this_secondAt h_this_spans h_this_kept h_this_text h_this_row h_this_read h_this_many h_this_first h_this_lengths h_this_page i_this j_this, (h_this_dayAt, .inl (cI, 8, .inl f_this_dayAt)), (h_this_secondAt, .inl (cI, 8, .inl f_this_secondAt)), (h_this_row, .inl (cJ, 16, .inr (.inl f_this_row)))] H → va_D A [cl_X10 h_this h_this_dayAt h_this_secondAt h_this_spans h_this_kept h_this_text h_this_row h_this_read h_this_many h_this_first h_this_lengths h_this_page i_this j_this, (h_this_dayAt, .inl (cI, 8, .inl f_this_dayAt)), (h_this_secondAt, .inl (cI, 8, .inl f_this_secondAt)), (h_this_row, .inl (cJ, 16, .inr (.inl f_this_row)))] → va_S A s.heap H locs → W p l e (kR 3 66) s m args below meth c H locs 0 0 Q (F0 m 143 ls []) := by
    intro v3 v4 v6 v7 i_this f_this_dayAt f_this_secondAt f_this_row ls H locs h hl hP hD hS
    unfold fX10_floors_j143 at h
    refine lv_aload_n hx hb dX10_floors_143 rfl (lv_at hl 0 rfl) ?_
    refine lv_iload hx hb dX10_floors_144 (lv_at hl 3 rfl) ?_
    refine lv_iload hx hb dX10_floors_146 (lv_at hl 4 rfl) ?_
    obtain ⟨i_this_1, hc2, h⟩ := bd1_at h
    refine kjV (kV (own := "DateSpansModel") (C := "DateSpansModel") (b := h_this) (As := [.int v6, .int v7]) (rest := []) ⟨hx, hb, hml, hown, hts⟩ (kX10_stands l dC dI cI cJ cB h_this h_this_dayAt h_this_secondAt h_this_spans h_this_kept h_this_text h_this_row h_this_read h_this_many h_this_first h_this_lengths h_this_page N v6 v7 i_this j_this i_this_1 hc2 _) (kgV (kq q_1136 rfl) (kq q_1138 rfl) (kq q_24 rfl) (kq q_66 rfl) (kq q_1139 rfl)) yd_X10_stands ⟨Nat.le_of_ble_eq_true rfl, Nat.le_of_ble_eq_true rfl⟩ hN hK hP hD [0] rfl rfl (ci := 9) rfl rfl rfl rfl rfl hl.1 rfl (lv_room (Nat.le_of_ble_eq_true rfl)) dX10_floors_148) hP hD hS hA [0] rfl rfl (fun H locs hP hD hS => ?_)
    have hP : va_P (dC, dI) vwCl [cl_X10 h_this h_this_dayAt h_this_secondAt h_this_spans h_this_kept h_this_text h_this_row h_this_read h_this_many h_this_first h_this_lengths h_this_page i_this_1 j_this, (h_this_dayAt, .inl (cI, 8, .inl f_this_dayAt)), (h_this_secondAt, .inl (cI, 8, .inl f_this_secondAt)), (h_this_row, .inl (cJ, 16, .inr (.inl f_this_row)))] H := hP
    have hD : va_D A [cl_X10 h_this h_this_dayAt h_this_secondAt h_this_spans h_this_kept h_this_text h_this_row h_this_read h_this_many h_this_first h_this_lengths h_this_page i_this_1 j_this, (h_this_dayAt, .inl (cI, 8, .inl f_this_dayAt)), (h_this_secondAt, .inl (cI, 8, .inl f_this_secondAt)), (h_this_row, .inl (cJ, 16, .inr (.inl f_this_row)))] := hD
    refine lv_aload_n hx hb dX10_floors_151 rfl (lv_at hl 0 rfl) ?_
    refine lv_iload_n hx hb dX10_floors_152 rfl (lv_at hl 1 rfl) ?_
    obtain ⟨f_this_dayAt_3, f_this_secondAt_4, hc5, h⟩ := bd2_at h
    refine kjV (kV (own := "DateSpansModel") (C := "DateSpansModel") (b := h_this) (As := [.int v3]) (rest := []) ⟨hx, hb, hml, hown, hts⟩ (kX10_comesTo l dC dI cI cJ cB h_this h_this_dayAt h_this_secondAt h_this_spans h_this_kept h_this_text h_this_row h_this_read h_this_many h_this_first h_this_lengths h_this_page N v3 i_this_1 j_this f_this_dayAt f_this_secondAt f_this_dayAt_3 f_this_secondAt_4 hc5 _) (kgV (kq q_1140 rfl) (kq q_1142 rfl) (kq q_25 rfl) (kq q_66 rfl) (kq q_1143 rfl)) yd_X10_comesTo ⟨Nat.le_of_ble_eq_true rfl, Nat.le_of_ble_eq_true rfl⟩ hN hK hP hD [0, 1, 2] rfl rfl (ci := 9) rfl rfl rfl rfl rfl hl.1 rfl (lv_room (Nat.le_of_ble_eq_true rfl)) dX10_floors_153) hP hD hS hA [0, 1, 2] rfl rfl (fun H locs hP hD hS => ?_)
    have hP : va_P (dC, dI) vwCl [cl_X10 h_this h_this_dayAt h_this_secondAt h_this_spans h_this_kept h_this_text h_this_row h_this_read h_this_many h_this_first h_this_lengths h_this_page i_this_1 j_this, (h_this_dayAt, .inl (cI, 8, .inl f_this_dayAt_3)), (h_this_secondAt, .inl (cI, 8, .inl f_this_secondAt_4)), (h_this_row, .inl (cJ, 16, .inr (.inl f_this_row)))] H := hP
    have hD : va_D A [cl_X10 h_this h_this_dayAt h_this_secondAt h_this_spans h_this_kept h_this_text h_this_row h_this_read h_this_many h_this_first h_this_lengths h_this_page i_this_1 j_this, (h_this_dayAt, .inl (cI, 8, .inl f_this_dayAt_3)), (h_this_secondAt, .inl (cI, 8, .inl f_this_secondAt_4)), (h_this_row, .inl (cJ, 16, .inr (.inl f_this_row)))] := hD
    refine lv_aload_n hx hb dX10_floors_156 rfl (lv_at hl 0 rfl) ?_
    refine lv_iconst (v := (0 : Int32)) hx hb dX10_floors_157 (by decide) ?_
    refine va_put (D := (dC, dI)) (ci := 9) (v := .int (0 : Int32)) (ty := .int) (C := RX10) (T := TX10) (N := 29) hx hb hts inX10 tyX10 tyX10_ok nmX10 hown hK hP hD hS 0 rfl rfl 8 (by decide) (hts _ (kq q_994 rfl)) (fun _ h9 => h9) rfl (by decide +kernel) rfl rfl (Nat.le_of_ble_eq_true rfl) dX10_floors_158 (fun H locs hP hD hS => ?_)
    have hP : va_P (dC, dI) vwCl [(h_this, .inr (9, [.ref h_this_dayAt, .ref h_this_secondAt, .ref h_this_spans, .ref h_this_kept, .int (i_this_1 4), .ref h_this_text, .int (i_this_1 6), .ref h_this_row, .int (0 : Int32), .int (i_this_1 9), .int (i_this_1 10), .int (i_this_1 11), .int (i_this_1 12), .int (i_this_1 13), .int (i_this_1 14), .int (i_this_1 15), .int (i_this_1 16), .int (i_this_1 17), .int (i_this_1 18), .ref h_this_read, .long (j_this 20), .ref h_this_many, .ref h_this_first, .ref h_this_lengths, .int (i_this_1 24), .long (j_this 25), .long (j_this 26), .ref h_this_page, .int (i_this_1 28)])), (h_this_dayAt, .inl (cI, 8, .inl f_this_dayAt_3)), (h_this_secondAt, .inl (cI, 8, .inl f_this_secondAt_4)), (h_this_row, .inl (cJ, 16, .inr (.inl f_this_row)))] H := hP
    have hD : va_D A [(h_this, .inr (9, [.ref h_this_dayAt, .ref h_this_secondAt, .ref h_this_spans, .ref h_this_kept, .int (i_this_1 4), .ref h_this_text, .int (i_this_1 6), .ref h_this_row, .int (0 : Int32), .int (i_this_1 9), .int (i_this_1 10), .int (i_this_1 11), .int (i_this_1 12), .int (i_this_1 13), .int (i_this_1 14), .int (i_this_1 15), .int (i_this_1 16), .int (i_this_1 17), .int (i_this_1 18), .ref h_this_read, .long (j_this 20), .ref h_this_many, .ref h_this_first, .ref h_this_lengths, .int (i_this_1 24), .long (j_this 25), .long (j_this 26), .ref h_this_page, .int (i_this_1 28)])), (h_this_dayAt, .inl (cI, 8, .inl f_this_dayAt_3)), (h_this_secondAt, .inl (cI, 8, .inl f_this_secondAt_4)), (h_this_row, .inl (cJ, 16, .inr (.inl f_this_row)))] := hD
    refine lv_aload_n hx hb dX10_floors_161 rfl (lv_at hl 0 rfl) ?_
    refine lv_iload hx hb dX10_floors_162 (lv_at hl 4 rfl) ?_
    refine lv_i2l hx hb dX10_floors_164 rfl ?_
    have hP : va_P (dC, dI) vwCl [cl_X10 h_this h_this_dayAt h_this_secondAt h_this_spans h_this_kept h_this_text h_this_row h_this_read h_this_many h_this_first h_this_lengths h_this_page (upd i_this_1 8 (0 : Int32)) j_this, (h_this_dayAt, .inl (cI, 8, .inl f_this_dayAt_3)), (h_this_secondAt, .inl (cI, 8, .inl f_this_secondAt_4)), (h_this_row, .inl (cJ, 16, .inr (.inl f_this_row)))] H := hP
    have hD : va_D A [cl_X10 h_this h_this_dayAt h_this_secondAt h_this_spans h_this_kept h_this_text h_this_row h_this_read h_this_many h_this_first h_this_lengths h_this_page (upd i_this_1 8 (0 : Int32)) j_this, (h_this_dayAt, .inl (cI, 8, .inl f_this_dayAt_3)), (h_this_secondAt, .inl (cI, 8, .inl f_this_secondAt_4)), (h_this_row, .inl (cJ, 16, .inr (.inl f_this_row)))] := hD
    obtain ⟨i_this_6, f_this_row_7, hc8, h⟩ := bd2_at h
    refine kjV (kV (own := "DateSpansModel") (C := "DateSpansModel") (b := h_this) (As := [.long v7.toInt64]) (rest := []) ⟨hx, hb, hml, hown, hts⟩ (kX10_tell l dC dI cI cJ cB h_this h_this_dayAt h_this_secondAt h_this_spans h_this_kept h_this_text h_this_row h_this_read h_this_many h_this_first h_this_lengths h_this_page N v7.toInt64 (upd i_this_1 8 (0 : Int32)) j_this f_this_row i_this_6 f_this_row_7 hc8 _) (kgV (kq q_1221 rfl) (kq q_1223 rfl) (kq q_29 rfl) (kq q_66 rfl) (kq q_1224 rfl)) yd_X10_tell ⟨Nat.le_of_ble_eq_true rfl, Nat.le_of_ble_eq_true rfl⟩ hN hK hP hD [0, 3] rfl rfl (ci := 9) rfl rfl rfl rfl rfl hl.1 rfl (lv_room (Nat.le_of_ble_eq_true rfl)) dX10_floors_165) hP hD hS hA [0, 3] rfl rfl (fun H locs hP hD hS => ?_)
    have hP : va_P (dC, dI) vwCl [cl_X10 h_this h_this_dayAt h_this_secondAt h_this_spans h_this_kept h_this_text h_this_row h_this_read h_this_many h_this_first h_this_lengths h_this_page i_this_6 j_this, (h_this_dayAt, .inl (cI, 8, .inl f_this_dayAt_3)), (h_this_secondAt, .inl (cI, 8, .inl f_this_secondAt_4)), (h_this_row, .inl (cJ, 16, .inr (.inl f_this_row_7)))] H := hP
    have hD : va_D A [cl_X10 h_this h_this_dayAt h_this_secondAt h_this_spans h_this_kept h_this_text h_this_row h_this_read h_this_many h_this_first h_this_lengths h_this_page i_this_6 j_this, (h_this_dayAt, .inl (cI, 8, .inl f_this_dayAt_3)), (h_this_secondAt, .inl (cI, 8, .inl f_this_secondAt_4)), (h_this_row, .inl (cJ, 16, .inr (.inl f_this_row_7)))] := hD
    refine lv_aload_n hx hb dX10_floors_168 rfl (lv_at hl 0 rfl) ?_
    refine lv_lload hx hb dX10_floors_169 (lv_at hl 2 rfl) ?_
    refine lv_aload_n hx hb dX10_floors_171 rfl (lv_at hl 0 rfl) ?_
    obtain ⟨r9, hc10, h⟩ := bd1_at h
    refine kjL (kV (own := "DateSpansModel") (C := "DateSpansModel") (b := h_this) (As := []) (rest := [.long v4, .ref h_this]) ⟨hx, hb, hml, hown, hts⟩ (kX10_instant l dC dI cI cJ cB h_this h_this_dayAt h_this_secondAt h_this_spans h_this_kept h_this_text h_this_row h_this_read h_this_many h_this_first h_this_lengths h_this_page N i_this_6 j_this r9 hc10 _) (kgV (kq q_1352 rfl) (kq q_1354 rfl) (kq q_42 rfl) (kq q_66 rfl) (kq q_1355 rfl)) yd_X10_instant ⟨Nat.le_of_ble_eq_true rfl, Nat.le_of_ble_eq_true rfl⟩ hN hK hP hD [0] rfl rfl (ci := 9) rfl rfl rfl rfl rfl hl.1 rfl (lv_room (Nat.le_of_ble_eq_true rfl)) dX10_floors_172) hP hD hS hA [0] rfl rfl (fun H locs hP hD hS => ?_)
    have hP : va_P (dC, dI) vwCl [cl_X10 h_this h_this_dayAt h_this_secondAt h_this_spans h_this_kept h_this_text h_this_row h_this_read h_this_many h_this_first h_this_lengths h_this_page i_this_6 j_this, (h_this_dayAt, .inl (cI, 8, .inl f_this_dayAt_3)), (h_this_secondAt, .inl (cI, 8, .inl f_this_secondAt_4)), (h_this_row, .inl (cJ, 16, .inr (.inl f_this_row_7)))] H := hP
    have hD : va_D A [cl_X10 h_this h_this_dayAt h_this_secondAt h_this_spans h_this_kept h_this_text h_this_row h_this_read h_this_many h_this_first h_this_lengths h_this_page i_this_6 j_this, (h_this_dayAt, .inl (cI, 8, .inl f_this_dayAt_3)), (h_this_secondAt, .inl (cI, 8, .inl f_this_secondAt_4)), (h_this_row, .inl (cJ, 16, .inr (.inl f_this_row_7)))] := hD
    refine lv_lsub hx hb dX10_floors_175 ?_
    obtain ⟨i_this_11, f_this_row_12, hc13, h⟩ := bd2_at h
    refine kjV (kV (own := "DateSpansModel") (C := "DateSpansModel") (b := h_this) (As := [.long (v4 - r9)]) (rest := []) ⟨hx, hb, hml, hown, hts⟩ (kX10_tell l dC dI cI cJ cB h_this h_this_dayAt h_this_secondAt h_this_spans h_this_kept h_this_text h_this_row h_this_read h_this_many h_this_first h_this_lengths h_this_page N (v4 - r9) i_this_6 j_this f_this_row_7 i_this_11 f_this_row_12 hc13 _) (kgV (kq q_1221 rfl) (kq q_1223 rfl) (kq q_29 rfl) (kq q_66 rfl) (kq q_1224 rfl)) yd_X10_tell ⟨Nat.le_of_ble_eq_true rfl, Nat.le_of_ble_eq_true rfl⟩ hN hK hP hD [0, 3] rfl rfl (ci := 9) rfl rfl rfl rfl rfl hl.1 rfl (lv_room (Nat.le_of_ble_eq_true rfl)) dX10_floors_176) hP hD hS hA [0, 3] rfl rfl (fun H locs hP hD hS => ?_)
    have hP : va_P (dC, dI) vwCl [cl_X10 h_this h_this_dayAt h_this_secondAt h_this_spans h_this_kept h_this_text h_this_row h_this_read h_this_many h_this_first h_this_lengths h_this_page i_this_11 j_this, (h_this_dayAt, .inl (cI, 8, .inl f_this_dayAt_3)), (h_this_secondAt, .inl (cI, 8, .inl f_this_secondAt_4)), (h_this_row, .inl (cJ, 16, .inr (.inl f_this_row_12)))] H := hP
    have hD : va_D A [cl_X10 h_this h_this_dayAt h_this_secondAt h_this_spans h_this_kept h_this_text h_this_row h_this_read h_this_many h_this_first h_this_lengths h_this_page i_this_11 j_this, (h_this_dayAt, .inl (cI, 8, .inl f_this_dayAt_3)), (h_this_secondAt, .inl (cI, 8, .inl f_this_secondAt_4)), (h_this_row, .inl (cJ, 16, .inr (.inl f_this_row_12)))] := hD
    refine lv_iload hx hb dX10_floors_179 (lv_at hl 3 rfl) ?_
    obtain ⟨rfl, rfl, rfl, rfl, rfl⟩ := pj5 h
    exact hEnd _ _ _ _ hP hS dX10_floors_181 rfl
  have JN_129 : ∀ (v2 : Int32) (v3 : Int32) (v4 : Int64) (v6 : Int32) (v7 : Int32) (i_this : Nat → Int32) (f_this_dayAt : Nat → Int32) (f_this_secondAt : Nat → Int32) (f_this_row : Nat → Int64) (ls : Array Slot) (H : Heap) (locs : List Loc), (fX10_floors_j129 N j_this) v2 v3 v4 v6 v7 i_this f_this_dayAt f_this_secondAt f_this_row = some (r, o_i_this, o_f_this_dayAt, o_f_this_secondAt, o_f_this_row) → lv_has ls 8 [(0, .ref h_this), (2, .int v2), (3, .int v3), (4, .long v4), (6, .int v6), (7, .int v7)] → va_P (dC, dI) vwCl [cl_X10 h_this h_this_dayAt h_this_secondAt h_this_spans h_this_kept h_this_text h_this_row h_this_read h_this_many h_this_first h_this_lengths h_this_page i_this j_this, (h_this_dayAt, .inl (cI, 8, .inl f_this_dayAt)), (h_this_secondAt, .inl (cI, 8, .inl f_this_secondAt)), (h_this_row, .inl (cJ, 16, .inr (.inl f_this_row)))] H → va_D A [cl_X10 h_this h_this_dayAt h_this_secondAt h_this_spans h_this_kept h_this_text h_this_row h_this_read h_this_many h_this_first h_this_lengths h_this_page i_this j_this, (h_this_dayAt, .inl (cI, 8, .inl f_this_dayAt)), (h_this_secondAt, .inl (cI, 8, .inl f_this_secondAt)), (h_this_row, .inl (cJ, 16, .inr (.inl f_this_row)))] → va_S A s.heap H locs → W p l e (kR 3 66) s m args below meth c H locs 0 0 Q (F0 m 129 ls []) := by
    intro v2 v3 v4 v6 v7 i_this f_this_dayAt f_this_secondAt f_this_row ls H locs h hl hP hD hS
    unfold fX10_floors_j129 at h
    refine lv_iload_n hx hb dX10_floors_129 rfl (lv_at hl 1 rfl) ?_
    refine lv_iconst (v := (5 : Int32)) hx hb dX10_floors_130 (by decide) ?_
    refine lv_icmp_ne (tgt := 143) hx hb dX10_floors_131 (by decide) (fun c14 => ?_) (fun c14 => ?_)
    · have h := ite_f c14 h
      exact JN_143 _ _ _ _ _ _ _ _ _ _ _ h (lv_sub hl [0, 2, 3, 4, 5] rfl) hP hD hS
    have h := ite_t c14 h
    refine lv_aload_n hx hb dX10_floors_134 rfl (lv_at hl 0 rfl) ?_
    refine va_get (D := (dC, dI)) (ci := 9) (v := .int (i_this 10)) (C := RX10) (T := TX10) (N := 29) hx hb hts inX10 hown hK hP 0 rfl rfl 10 (by decide) (hts _ (kq q_996 rfl)) (fun _ h9 => h9) rfl dX10_floors_135 ?_
    obtain ⟨r15, hc16, h⟩ := bd1_at h
    refine kjSI (kS0 (own := "DateSpansModel") (As := [.int (i_this 10)]) (rest := []) ⟨hx, hb, hml, hown, hts⟩ (kX10_yearBegins l N (i_this 10) r15 hc16) (kgS (kq q_1130 rfl) (kq q_1131 rfl) (kq q_66 rfl) (kq q_1132 rfl)) yd_X10_yearBegins ⟨Nat.le_of_ble_eq_true rfl, Nat.le_of_ble_eq_true rfl⟩ rfl rfl hl.1 rfl (lv_room (Nat.le_of_ble_eq_true rfl)) dX10_floors_138) ?_
    refine lv_istore (lv' := [(6, .int r15), (0, .ref h_this), (2, .int v2), (3, .int v3), (4, .long v4), (7, .int v7)]) hx hb dX10_floors_141 hl (by decide) rfl (fun ls hl => ?_)
    exact JN_143 _ _ _ _ _ _ _ _ _ _ _ h (lv_sub hl [1, 3, 4, 0, 5] rfl) hP hD hS
  have JN_113 : ∀ (v2 : Int32) (v3 : Int32) (v4 : Int64) (v6 : Int32) (v7 : Int32) (i_this : Nat → Int32) (f_this_dayAt : Nat → Int32) (f_this_secondAt : Nat → Int32) (f_this_row : Nat → Int64) (ls : Array Slot) (H : Heap) (locs : List Loc), (fX10_floors_j113 N j_this) v2 v3 v4 v6 v7 i_this f_this_dayAt f_this_secondAt f_this_row = some (r, o_i_this, o_f_this_dayAt, o_f_this_secondAt, o_f_this_row) → lv_has ls 8 [(0, .ref h_this), (2, .int v2), (3, .int v3), (4, .long v4), (6, .int v6), (7, .int v7)] → va_P (dC, dI) vwCl [cl_X10 h_this h_this_dayAt h_this_secondAt h_this_spans h_this_kept h_this_text h_this_row h_this_read h_this_many h_this_first h_this_lengths h_this_page i_this j_this, (h_this_dayAt, .inl (cI, 8, .inl f_this_dayAt)), (h_this_secondAt, .inl (cI, 8, .inl f_this_secondAt)), (h_this_row, .inl (cJ, 16, .inr (.inl f_this_row)))] H → va_D A [cl_X10 h_this h_this_dayAt h_this_secondAt h_this_spans h_this_kept h_this_text h_this_row h_this_read h_this_many h_this_first h_this_lengths h_this_page i_this j_this, (h_this_dayAt, .inl (cI, 8, .inl f_this_dayAt)), (h_this_secondAt, .inl (cI, 8, .inl f_this_secondAt)), (h_this_row, .inl (cJ, 16, .inr (.inl f_this_row)))] → va_S A s.heap H locs → W p l e (kR 3 66) s m args below meth c H locs 0 0 Q (F0 m 113 ls []) := by
    intro v2 v3 v4 v6 v7 i_this f_this_dayAt f_this_secondAt f_this_row ls H locs h hl hP hD hS
    unfold fX10_floors_j113 at h
    refine lv_iload_n hx hb dX10_floors_113 rfl (lv_at hl 1 rfl) ?_
    refine lv_iconst (v := (4 : Int32)) hx hb dX10_floors_114 (by decide) ?_
    refine lv_icmp_ne (tgt := 129) hx hb dX10_floors_115 (by decide) (fun c17 => ?_) (fun c17 => ?_)
    · have h := ite_f c17 h
      exact JN_129 _ _ _ _ _ _ _ _ _ _ _ _ h (lv_sub hl [0, 1, 2, 3, 4, 5] rfl) hP hD hS
    have h := ite_t c17 h
    refine lv_iload hx hb dX10_floors_118 (lv_at hl 4 rfl) ?_
    refine lv_aload_n hx hb dX10_floors_120 rfl (lv_at hl 0 rfl) ?_
    refine va_get (D := (dC, dI)) (ci := 9) (v := .int (i_this 12)) (C := RX10) (T := TX10) (N := 29) hx hb hts inX10 hown hK hP 0 rfl rfl 12 (by decide) (hts _ (kq q_998 rfl)) (fun _ h9 => h9) rfl dX10_floors_121 ?_
    refine lv_iconst (v := (1 : Int32)) hx hb dX10_floors_124 (by decide) ?_
    refine lv_isub hx hb dX10_floors_125 ?_
    refine lv_isub hx hb dX10_floors_126 ?_
    refine lv_topi (fun z18 ez18 => ?_)
    have h := nm_at ez18 h
    refine lv_istore (lv' := [(6, .int z18), (0, .ref h_this), (2, .int v2), (3, .int v3), (4, .long v4), (7, .int v7)]) hx hb dX10_floors_127 hl (by decide) rfl (fun ls hl => ?_)
    exact JN_129 _ _ _ _ _ _ _ _ _ _ _ _ h (lv_sub hl [1, 2, 3, 4, 0, 5] rfl) hP hD hS
  have JN_90 : ∀ (v2 : Int32) (v3 : Int32) (v4 : Int64) (v6 : Int32) (t0 : Int32) (i_this : Nat → Int32) (f_this_dayAt : Nat → Int32) (f_this_secondAt : Nat → Int32) (f_this_row : Nat → Int64) (ls : Array Slot) (H : Heap) (locs : List Loc), (fX10_floors_j90 N j_this) v2 v3 v4 v6 t0 i_this f_this_dayAt f_this_secondAt f_this_row = some (r, o_i_this, o_f_this_dayAt, o_f_this_secondAt, o_f_this_row) → lv_has ls 8 [(0, .ref h_this), (2, .int v2), (3, .int v3), (4, .long v4), (6, .int v6)] → va_P (dC, dI) vwCl [cl_X10 h_this h_this_dayAt h_this_secondAt h_this_spans h_this_kept h_this_text h_this_row h_this_read h_this_many h_this_first h_this_lengths h_this_page i_this j_this, (h_this_dayAt, .inl (cI, 8, .inl f_this_dayAt)), (h_this_secondAt, .inl (cI, 8, .inl f_this_secondAt)), (h_this_row, .inl (cJ, 16, .inr (.inl f_this_row)))] H → va_D A [cl_X10 h_this h_this_dayAt h_this_secondAt h_this_spans h_this_kept h_this_text h_this_row h_this_read h_this_many h_this_first h_this_lengths h_this_page i_this j_this, (h_this_dayAt, .inl (cI, 8, .inl f_this_dayAt)), (h_this_secondAt, .inl (cI, 8, .inl f_this_secondAt)), (h_this_row, .inl (cJ, 16, .inr (.inl f_this_row)))] → va_S A s.heap H locs → W p l e (kR 3 66) s m args below meth c H locs 0 0 Q (F0 m 90 ls [.int t0]) := by
    intro v2 v3 v4 v6 t0 i_this f_this_dayAt f_this_secondAt f_this_row ls H locs h hl hP hD hS
    unfold fX10_floors_j90 at h
    refine lv_istore (lv' := [(7, .int t0), (0, .ref h_this), (2, .int v2), (3, .int v3), (4, .long v4), (6, .int v6)]) hx hb dX10_floors_90 hl (by decide) rfl (fun ls hl => ?_)
    refine lv_aload_n hx hb dX10_floors_92 rfl (lv_at hl 1 rfl) ?_
    refine lv_iload hx hb dX10_floors_93 (lv_at hl 5 rfl) ?_
    obtain ⟨i_this_19, hc20, h⟩ := bd1_at h
    refine kjV (kV (own := "DateSpansModel") (C := "DateSpansModel") (b := h_this) (As := [.int v6]) (rest := []) ⟨hx, hb, hml, hown, hts⟩ (kX10_dates l dC dI cI cJ cB h_this h_this_dayAt h_this_secondAt h_this_spans h_this_kept h_this_text h_this_row h_this_read h_this_many h_this_first h_this_lengths h_this_page N v6 i_this j_this i_this_19 hc20 _) (kgV (kq q_1238 rfl) (kq q_1240 rfl) (kq q_30 rfl) (kq q_66 rfl) (kq q_1241 rfl)) yd_X10_dates ⟨Nat.le_of_ble_eq_true rfl, Nat.le_of_ble_eq_true rfl⟩ hN hK hP hD [0] rfl rfl (ci := 9) rfl rfl rfl rfl rfl hl.1 rfl (lv_room (Nat.le_of_ble_eq_true rfl)) dX10_floors_95) hP hD hS hA [0] rfl rfl (fun H locs hP hD hS => ?_)
    have hP : va_P (dC, dI) vwCl [cl_X10 h_this h_this_dayAt h_this_secondAt h_this_spans h_this_kept h_this_text h_this_row h_this_read h_this_many h_this_first h_this_lengths h_this_page i_this_19 j_this, (h_this_dayAt, .inl (cI, 8, .inl f_this_dayAt)), (h_this_secondAt, .inl (cI, 8, .inl f_this_secondAt)), (h_this_row, .inl (cJ, 16, .inr (.inl f_this_row)))] H := hP
    have hD : va_D A [cl_X10 h_this h_this_dayAt h_this_secondAt h_this_spans h_this_kept h_this_text h_this_row h_this_read h_this_many h_this_first h_this_lengths h_this_page i_this_19 j_this, (h_this_dayAt, .inl (cI, 8, .inl f_this_dayAt)), (h_this_secondAt, .inl (cI, 8, .inl f_this_secondAt)), (h_this_row, .inl (cJ, 16, .inr (.inl f_this_row)))] := hD
    refine lv_iload_n hx hb dX10_floors_98 rfl (lv_at hl 2 rfl) ?_
    refine lv_iconst (v := (3 : Int32)) hx hb dX10_floors_99 (by decide) ?_
    refine lv_icmp_ne (tgt := 113) hx hb dX10_floors_100 (by decide) (fun c21 => ?_) (fun c21 => ?_)
    · have h := ite_f c21 h
      exact JN_113 _ _ _ _ _ _ _ _ _ _ _ _ h (lv_sub hl [1, 2, 3, 4, 5, 0] rfl) hP hD hS
    have h := ite_t c21 h
    refine lv_iload hx hb dX10_floors_103 (lv_at hl 5 rfl) ?_
    refine lv_iload hx hb dX10_floors_105 (lv_at hl 5 rfl) ?_
    refine lv_bipush (v := (7 : Int32)) hx hb dX10_floors_107 (by decide) ?_
    refine lv_irem hx hb dX10_floors_109 (by decide) ?_
    refine lv_isub hx hb dX10_floors_110 ?_
    refine lv_topi (fun z22 ez22 => ?_)
    have h := nm_at ez22 h
    refine lv_istore (lv' := [(6, .int z22), (7, .int t0), (0, .ref h_this), (2, .int v2), (3, .int v3), (4, .long v4)]) hx hb dX10_floors_111 hl (by decide) rfl (fun ls hl => ?_)
    exact JN_113 _ _ _ _ _ _ _ _ _ _ _ _ h (lv_sub hl [2, 3, 4, 5, 0, 1] rfl) hP hD hS
  have h := hf
  unfold fX10_floors at h
  refine lv_aload_n hx hb dX10_floors_0 rfl (lv_at hl 0 rfl) ?_
  refine lv_iconst (v := (0 : Int32)) hx hb dX10_floors_1 (by decide) ?_
  refine va_put (D := (dC, dI)) (ci := 9) (v := .int (0 : Int32)) (ty := .int) (C := RX10) (T := TX10) (N := 29) hx hb hts inX10 tyX10 tyX10_ok nmX10 hown hK hP hD hS 0 rfl rfl 9 (by decide) (hts _ (kq q_995 rfl)) (fun _ h9 => h9) rfl (by decide +kernel) rfl rfl (Nat.le_of_ble_eq_true rfl) dX10_floors_2 (fun H locs hP hD hS => ?_)
  have hP : va_P (dC, dI) vwCl [(h_this, .inr (9, [.ref h_this_dayAt, .ref h_this_secondAt, .ref h_this_spans, .ref h_this_kept, .int (i_this 4), .ref h_this_text, .int (i_this 6), .ref h_this_row, .int (i_this 8), .int (0 : Int32), .int (i_this 10), .int (i_this 11), .int (i_this 12), .int (i_this 13), .int (i_this 14), .int (i_this 15), .int (i_this 16), .int (i_this 17), .int (i_this 18), .ref h_this_read, .long (j_this 20), .ref h_this_many, .ref h_this_first, .ref h_this_lengths, .int (i_this 24), .long (j_this 25), .long (j_this 26), .ref h_this_page, .int (i_this 28)])), (h_this_dayAt, .inl (cI, 8, .inl f_this_dayAt)), (h_this_secondAt, .inl (cI, 8, .inl f_this_secondAt)), (h_this_row, .inl (cJ, 16, .inr (.inl f_this_row)))] H := hP
  have hD : va_D A [(h_this, .inr (9, [.ref h_this_dayAt, .ref h_this_secondAt, .ref h_this_spans, .ref h_this_kept, .int (i_this 4), .ref h_this_text, .int (i_this 6), .ref h_this_row, .int (i_this 8), .int (0 : Int32), .int (i_this 10), .int (i_this 11), .int (i_this 12), .int (i_this 13), .int (i_this 14), .int (i_this 15), .int (i_this 16), .int (i_this 17), .int (i_this 18), .ref h_this_read, .long (j_this 20), .ref h_this_many, .ref h_this_first, .ref h_this_lengths, .int (i_this 24), .long (j_this 25), .long (j_this 26), .ref h_this_page, .int (i_this 28)])), (h_this_dayAt, .inl (cI, 8, .inl f_this_dayAt)), (h_this_secondAt, .inl (cI, 8, .inl f_this_secondAt)), (h_this_row, .inl (cJ, 16, .inr (.inl f_this_row)))] := hD
  refine lv_iload_n hx hb dX10_floors_5 rfl (lv_at hl 1 rfl) ?_
  have hP : va_P (dC, dI) vwCl [cl_X10 h_this h_this_dayAt h_this_secondAt h_this_spans h_this_kept h_this_text h_this_row h_this_read h_this_many h_this_first h_this_lengths h_this_page (upd i_this 9 (0 : Int32)) j_this, (h_this_dayAt, .inl (cI, 8, .inl f_this_dayAt)), (h_this_secondAt, .inl (cI, 8, .inl f_this_secondAt)), (h_this_row, .inl (cJ, 16, .inr (.inl f_this_row)))] H := hP
  have hD : va_D A [cl_X10 h_this h_this_dayAt h_this_secondAt h_this_spans h_this_kept h_this_text h_this_row h_this_read h_this_many h_this_first h_this_lengths h_this_page (upd i_this 9 (0 : Int32)) j_this, (h_this_dayAt, .inl (cI, 8, .inl f_this_dayAt)), (h_this_secondAt, .inl (cI, 8, .inl f_this_secondAt)), (h_this_row, .inl (cJ, 16, .inr (.inl f_this_row)))] := hD
  obtain ⟨r23, hc24, h⟩ := bd1_at h
  refine kjSI (kS0 (own := "DateSpansModel") (As := [.int p1]) (rest := []) ⟨hx, hb, hml, hown, hts⟩ (kX10_isSlot l N p1 r23 hc24) (kgS (kq q_1123 rfl) (kq q_1124 rfl) (kq q_66 rfl) (kq q_1125 rfl)) yd_X10_isSlot ⟨Nat.le_of_ble_eq_true rfl, Nat.le_of_ble_eq_true rfl⟩ rfl rfl hl.1 rfl (lv_room (Nat.le_of_ble_eq_true rfl)) dX10_floors_6) ?_
  refine lv_if_eq (tgt := 31) hx hb dX10_floors_9 (by decide) (fun c25 => ?_) (fun c25 => ?_)
  · have h := ite_t c25 h
    refine lv_iconst (v := (-1 : Int32)) hx hb dX10_floors_31 (by decide) ?_
    obtain ⟨rfl, rfl, rfl, rfl, rfl⟩ := pj5 h
    exact hEnd _ _ _ _ hP hS dX10_floors_32 rfl
  have h := ite_f c25 h
  refine lv_iload_n hx hb dX10_floors_12 rfl (lv_at hl 2 rfl) ?_
  refine lv_i2l hx hb dX10_floors_13 rfl ?_
  refine lv_lconst (v := (0 : Int64)) hx hb dX10_floors_14 (by decide) ?_
  refine lv_ldc2 (v := (5 : Int64)) hx hb hown (hts _ (kq q_1445 rfl)) dX10_floors_15 ?_
  obtain ⟨r26, hc27, h⟩ := bd1_at h
  refine kjSI (kS0 (own := "DateSpansModel") (As := [.long p2.toInt64, .long (0 : Int64), .long (5 : Int64)]) (rest := []) ⟨hx, hb, hml, hown, hts⟩ (kX10_in l N p2.toInt64 (0 : Int64) (5 : Int64) r26 hc27) (kgS (kq q_1086 rfl) (kq q_1087 rfl) (kq q_66 rfl) (kq q_1088 rfl)) yd_X10_in ⟨Nat.le_of_ble_eq_true rfl, Nat.le_of_ble_eq_true rfl⟩ rfl rfl hl.1 rfl (lv_room (Nat.le_of_ble_eq_true rfl)) dX10_floors_18) ?_
  refine lv_if_eq (tgt := 31) hx hb dX10_floors_21 (by decide) (fun c28 => ?_) (fun c28 => ?_)
  · have h := ite_t c28 h
    refine lv_iconst (v := (-1 : Int32)) hx hb dX10_floors_31 (by decide) ?_
    obtain ⟨rfl, rfl, rfl, rfl, rfl⟩ := pj5 h
    exact hEnd _ _ _ _ hP hS dX10_floors_32 rfl
  have h := ite_f c28 h
  refine lv_iload_n hx hb dX10_floors_24 rfl (lv_at hl 3 rfl) ?_
  obtain ⟨r29, hc30, h⟩ := bd1_at h
  refine kjSI (kS0 (own := "DateSpansModel") (As := [.int p3]) (rest := []) ⟨hx, hb, hml, hown, hts⟩ (kX10_isSlot l N p3 r29 hc30) (kgS (kq q_1123 rfl) (kq q_1124 rfl) (kq q_66 rfl) (kq q_1125 rfl)) yd_X10_isSlot ⟨Nat.le_of_ble_eq_true rfl, Nat.le_of_ble_eq_true rfl⟩ rfl rfl hl.1 rfl (lv_room (Nat.le_of_ble_eq_true rfl)) dX10_floors_25) ?_
  refine lv_if_ne (tgt := 33) hx hb dX10_floors_28 (by decide) (fun c31 => ?_) (fun c31 => ?_)
  · have h := ite_f c31 h
    refine lv_aload_n hx hb dX10_floors_33 rfl (lv_at hl 0 rfl) ?_
    refine lv_iload_n hx hb dX10_floors_34 rfl (lv_at hl 1 rfl) ?_
    obtain ⟨r32, hc33, h⟩ := bd1_at h
    refine kjL (kV (own := "DateSpansModel") (C := "DateSpansModel") (b := h_this) (As := [.int p1]) (rest := []) ⟨hx, hb, hml, hown, hts⟩ (kX10_instantOf l dC dI cI cJ cB h_this h_this_dayAt h_this_secondAt h_this_spans h_this_kept h_this_text h_this_row h_this_read h_this_many h_this_first h_this_lengths h_this_page N p1 (upd i_this 9 (0 : Int32)) j_this f_this_dayAt f_this_secondAt r32 hc33 _) (kgV (kq q_1340 rfl) (kq q_1342 rfl) (kq q_39 rfl) (kq q_66 rfl) (kq q_1343 rfl)) yd_X10_instantOf ⟨Nat.le_of_ble_eq_true rfl, Nat.le_of_ble_eq_true rfl⟩ hN hK hP hD [0, 1, 2] rfl rfl (ci := 9) rfl rfl rfl rfl rfl hl.1 rfl (lv_room (Nat.le_of_ble_eq_true rfl)) dX10_floors_35) hP hD hS hA [0, 1, 2] rfl rfl (fun H locs hP hD hS => ?_)
    have hP : va_P (dC, dI) vwCl [cl_X10 h_this h_this_dayAt h_this_secondAt h_this_spans h_this_kept h_this_text h_this_row h_this_read h_this_many h_this_first h_this_lengths h_this_page (upd i_this 9 (0 : Int32)) j_this, (h_this_dayAt, .inl (cI, 8, .inl f_this_dayAt)), (h_this_secondAt, .inl (cI, 8, .inl f_this_secondAt)), (h_this_row, .inl (cJ, 16, .inr (.inl f_this_row)))] H := hP
    have hD : va_D A [cl_X10 h_this h_this_dayAt h_this_secondAt h_this_spans h_this_kept h_this_text h_this_row h_this_read h_this_many h_this_first h_this_lengths h_this_page (upd i_this 9 (0 : Int32)) j_this, (h_this_dayAt, .inl (cI, 8, .inl f_this_dayAt)), (h_this_secondAt, .inl (cI, 8, .inl f_this_secondAt)), (h_this_row, .inl (cJ, 16, .inr (.inl f_this_row)))] := hD
    refine lv_lstore (lv' := [(4, .long r32), (0, .ref h_this), (1, .int p1), (2, .int p2), (3, .int p3)]) hx hb dX10_floors_38 hl (by decide) rfl (fun ls hl => ?_)
    refine lv_aload_n hx hb dX10_floors_40 rfl (lv_at hl 1 rfl) ?_
    refine va_get (D := (dC, dI)) (ci := 9) (v := .ref h_this_dayAt) (C := RX10) (T := TX10) (N := 29) hx hb hts inX10 hown hK hP 0 rfl rfl 0 (by decide) (hts _ (kq q_986 rfl)) (fun _ h9 => h9) rfl dX10_floors_41 ?_
    refine lv_iload_n hx hb dX10_floors_44 rfl (lv_at hl 2 rfl) ?_
    obtain ⟨hi34, h⟩ := gi_at h
    refine va_iald hx hb hK hP 1 0 rfl rfl hi34 dX10_floors_45 ?_
    refine lv_topi (fun z35 ez35 => ?_)
    have h := nm_at ez35 h
    refine lv_istore (lv' := [(6, .int z35), (4, .long r32), (0, .ref h_this), (1, .int p1), (2, .int p2), (3, .int p3)]) hx hb dX10_floors_46 hl (by decide) rfl (fun ls hl => ?_)
    refine lv_iload_n hx hb dX10_floors_48 rfl (lv_at hl 4 rfl) ?_
    refine lv_if_ne (tgt := 67) hx hb dX10_floors_49 (by decide) (fun c36 => ?_) (fun c36 => ?_)
    · have h := ite_f c36 h
      refine lv_iload_n hx hb dX10_floors_67 rfl (lv_at hl 4 rfl) ?_
      refine lv_iconst (v := (1 : Int32)) hx hb dX10_floors_68 (by decide) ?_
      refine lv_icmp_ne (tgt := 89) hx hb dX10_floors_69 (by decide) (fun c37 => ?_) (fun c37 => ?_)
      · have h := ite_f c37 h
        refine lv_iconst (v := (0 : Int32)) hx hb dX10_floors_89 (by decide) ?_
        exact JN_90 _ _ _ _ _ _ _ _ _ _ _ _ h (lv_sub hl [2, 4, 5, 1, 0] rfl) hP hD hS
      have h := ite_t c37 h
      refine lv_aload_n hx hb dX10_floors_72 rfl (lv_at hl 2 rfl) ?_
      refine va_get (D := (dC, dI)) (ci := 9) (v := .ref h_this_secondAt) (C := RX10) (T := TX10) (N := 29) hx hb hts inX10 hown hK hP 0 rfl rfl 1 (by decide) (hts _ (kq q_987 rfl)) (fun _ h9 => h9) rfl dX10_floors_73 ?_
      refine lv_iload_n hx hb dX10_floors_76 rfl (lv_at hl 3 rfl) ?_
      obtain ⟨hi38, h⟩ := gi_at h
      refine va_iald hx hb hK hP 2 0 rfl rfl hi38 dX10_floors_77 ?_
      refine lv_sipush (v := (3600 : Int32)) hx hb dX10_floors_78 (by decide) ?_
      refine lv_idiv hx hb dX10_floors_81 (by decide) ?_
      refine lv_sipush (v := (3600 : Int32)) hx hb dX10_floors_82 (by decide) ?_
      refine lv_imul hx hb dX10_floors_85 ?_
      refine lv_goto (tgt := 90) hx hb dX10_floors_86 (by decide) ?_
      exact JN_90 _ _ _ _ _ _ _ _ _ _ _ _ h (lv_sub hl [2, 4, 5, 1, 0] rfl) hP hD hS
    have h := ite_t c36 h
    refine lv_aload_n hx hb dX10_floors_52 rfl (lv_at hl 2 rfl) ?_
    refine va_get (D := (dC, dI)) (ci := 9) (v := .ref h_this_secondAt) (C := RX10) (T := TX10) (N := 29) hx hb hts inX10 hown hK hP 0 rfl rfl 1 (by decide) (hts _ (kq q_987 rfl)) (fun _ h9 => h9) rfl dX10_floors_53 ?_
    refine lv_iload_n hx hb dX10_floors_56 rfl (lv_at hl 3 rfl) ?_
    obtain ⟨hi39, h⟩ := gi_at h
    refine va_iald hx hb hK hP 2 0 rfl rfl hi39 dX10_floors_57 ?_
    refine lv_bipush (v := (60 : Int32)) hx hb dX10_floors_58 (by decide) ?_
    refine lv_idiv hx hb dX10_floors_60 (by decide) ?_
    refine lv_bipush (v := (60 : Int32)) hx hb dX10_floors_61 (by decide) ?_
    refine lv_imul hx hb dX10_floors_63 ?_
    refine lv_goto (tgt := 90) hx hb dX10_floors_64 (by decide) ?_
    exact JN_90 _ _ _ _ _ _ _ _ _ _ _ _ h (lv_sub hl [2, 4, 5, 1, 0] rfl) hP hD hS
  have h := ite_t c31 h
  refine lv_iconst (v := (-1 : Int32)) hx hb dX10_floors_31 (by decide) ?_
  obtain ⟨rfl, rfl, rfl, rfl, rfl⟩ := pj5 h
  exact hEnd _ _ _ _ hP hS dX10_floors_32 rfl
noncomputable def fX10_part (N : Nat) (p1 : Int32) (p2 : Int32) (p3 : Int32) (p4 : Int32) (p5 : Int32) (i_this : Nat → Int32) (j_this : Nat → Int64) (f_this_dayAt : Nat → Int32) (f_this_secondAt : Nat → Int32) (f_this_row : Nat → Int64) : Option (Int32 × (Nat → Int32) × (Nat → Int32) × (Nat → Int32) × (Nat → Int64)) := (bd1 (fX10_isSlot N p1) fun r1 => (if r1 = (0 : Int32) then (some ((-1 : Int32), (upd i_this 9 (0 : Int32)), f_this_dayAt, f_this_secondAt, f_this_row)) else (bd1 (fX10_isSlot N p2) fun r4 => (if r4 = (0 : Int32) then (some ((-1 : Int32), (upd i_this 9 (0 : Int32)), f_this_dayAt, f_this_secondAt, f_this_row)) else (bd1 (fX10_in N p4.toInt64 (1 : Int64) (1000 : Int64)) fun r7 => (if r7 = (0 : Int32) then (some ((-1 : Int32), (upd i_this 9 (0 : Int32)), f_this_dayAt, f_this_secondAt, f_this_row)) else (bd1 (fX10_in N p3.toInt64 (0 : Int64) p4.toInt64) fun r10 => (if r10 = (0 : Int32) then (some ((-1 : Int32), (upd i_this 9 (0 : Int32)), f_this_dayAt, f_this_secondAt, f_this_row)) else (bd1 (fX10_isSlot N p5) fun r13 => (if r13 = (0 : Int32) then (some ((-1 : Int32), (upd i_this 9 (0 : Int32)), f_this_dayAt, f_this_secondAt, f_this_row)) else (bd1 (fX10_instantOf N p1 (upd i_this 9 (0 : Int32)) j_this f_this_dayAt f_this_secondAt) fun r16 => (bd1 (fX10_instantOf N p2 (upd i_this 9 (0 : Int32)) j_this f_this_dayAt f_this_secondAt) fun r18 => (bd1 (fX10_instantOf N p1 (upd i_this 9 (0 : Int32)) j_this f_this_dayAt f_this_secondAt) fun r20 => (gnl p4.toInt64 (nm (r16 + (((r18 - r20) * p3.toInt64) / p4.toInt64)) fun z23 => (bd1 (fX10_stands N ((z23 / (86400 : Int64)).toInt32) ((z23 - z23 / (86400 : Int64) * (86400 : Int64)).toInt32) (upd i_this 9 (0 : Int32)) j_this) fun i_this_24 => (bd2 (fX10_comesTo N p5 i_this_24 j_this f_this_dayAt f_this_secondAt) fun f_this_dayAt_26 f_this_secondAt_27 => (bd2 (fX10_tell N ((i_this_24 14).toInt64) (upd i_this_24 8 (0 : Int32)) j_this f_this_row) fun i_this_29 f_this_row_30 => (some ((i_this_29 13), i_this_29, f_this_dayAt_26, f_this_secondAt_27, f_this_row_30))))))))))))))))))))
set_option maxHeartbeats 4000000 in
set_option maxRecDepth 100000 in
theorem kX10_part (l : Launch) (dC : Nat → ClassId) (dI : Nat → Nat → Nat) (cI cJ cB : ClassId) (h_this h_this_dayAt h_this_secondAt h_this_spans h_this_kept h_this_text h_this_row h_this_read h_this_many h_this_first h_this_lengths h_this_page : Nat) (N : Nat) (p1 : Int32) (p2 : Int32) (p3 : Int32) (p4 : Int32) (p5 : Int32) (i_this : Nat → Int32) (j_this : Nat → Int64) (f_this_dayAt : Nat → Int32) (f_this_secondAt : Nat → Int32) (f_this_row : Nat → Int64) (r : Int32) (o_i_this : Nat → Int32) (o_f_this_dayAt : Nat → Int32) (o_f_this_secondAt : Nat → Int32) (o_f_this_row : Nat → Int64) (hf : fX10_part N p1 p2 p3 p4 p5 i_this j_this f_this_dayAt f_this_secondAt f_this_row = some (r, o_i_this, o_f_this_dayAt, o_f_this_secondAt, o_f_this_row)) : MI l yX10_part (kws yX10_part cX10_part 8 (some .int)) (kR 2 45) (dC, dI) (kT cI cJ cB) [.ref h_this, .int p1, .int p2, .int p3, .int p4, .int p5] [cl_X10 h_this h_this_dayAt h_this_secondAt h_this_spans h_this_kept h_this_text h_this_row h_this_read h_this_many h_this_first h_this_lengths h_this_page i_this j_this, (h_this_dayAt, .inl (cI, 8, .inl f_this_dayAt)), (h_this_secondAt, .inl (cI, 8, .inl f_this_secondAt)), (h_this_row, .inl (cJ, 16, .inr (.inl f_this_row)))] [cl_X10 h_this h_this_dayAt h_this_secondAt h_this_spans h_this_kept h_this_text h_this_row h_this_read h_this_many h_this_first h_this_lengths h_this_page o_i_this j_this, (h_this_dayAt, .inl (cI, 8, .inl o_f_this_dayAt)), (h_this_secondAt, .inl (cI, 8, .inl o_f_this_secondAt)), (h_this_row, .inl (cJ, 16, .inr (.inl o_f_this_row)))] r := by
  refine MI.of (cc := cX10_part) (maxL := 8) (by decide) (Nat.le_of_ble_eq_true rfl) (fun p e s m args below meth c A Q ls KC hN hK hP hD hA hl hEnd => ?_)
  obtain ⟨hx, hb, hml, hown, hts⟩ := KC
  have hown : s.vm.findClass "DateSpansModel" = some m.cls := hown
  have hl : lv_has ls 8 [(0, .ref h_this), (1, .int p1), (2, .int p2), (3, .int p3), (4, .int p4), (5, .int p5)] := hl
  have hS : va_S A s.heap s.heap [] := va_S.rf
  have h := hf
  unfold fX10_part at h
  refine lv_aload_n hx hb dX10_part_0 rfl (lv_at hl 0 rfl) ?_
  refine lv_iconst (v := (0 : Int32)) hx hb dX10_part_1 (by decide) ?_
  refine va_put (D := (dC, dI)) (ci := 9) (v := .int (0 : Int32)) (ty := .int) (C := RX10) (T := TX10) (N := 29) hx hb hts inX10 tyX10 tyX10_ok nmX10 hown hK hP hD hS 0 rfl rfl 9 (by decide) (hts _ (kq q_995 rfl)) (fun _ h9 => h9) rfl (by decide +kernel) rfl rfl (Nat.le_of_ble_eq_true rfl) dX10_part_2 (fun H locs hP hD hS => ?_)
  have hP : va_P (dC, dI) vwCl [(h_this, .inr (9, [.ref h_this_dayAt, .ref h_this_secondAt, .ref h_this_spans, .ref h_this_kept, .int (i_this 4), .ref h_this_text, .int (i_this 6), .ref h_this_row, .int (i_this 8), .int (0 : Int32), .int (i_this 10), .int (i_this 11), .int (i_this 12), .int (i_this 13), .int (i_this 14), .int (i_this 15), .int (i_this 16), .int (i_this 17), .int (i_this 18), .ref h_this_read, .long (j_this 20), .ref h_this_many, .ref h_this_first, .ref h_this_lengths, .int (i_this 24), .long (j_this 25), .long (j_this 26), .ref h_this_page, .int (i_this 28)])), (h_this_dayAt, .inl (cI, 8, .inl f_this_dayAt)), (h_this_secondAt, .inl (cI, 8, .inl f_this_secondAt)), (h_this_row, .inl (cJ, 16, .inr (.inl f_this_row)))] H := hP
  have hD : va_D A [(h_this, .inr (9, [.ref h_this_dayAt, .ref h_this_secondAt, .ref h_this_spans, .ref h_this_kept, .int (i_this 4), .ref h_this_text, .int (i_this 6), .ref h_this_row, .int (i_this 8), .int (0 : Int32), .int (i_this 10), .int (i_this 11), .int (i_this 12), .int (i_this 13), .int (i_this 14), .int (i_this 15), .int (i_this 16), .int (i_this 17), .int (i_this 18), .ref h_this_read, .long (j_this 20), .ref h_this_many, .ref h_this_first, .ref h_this_lengths, .int (i_this 24), .long (j_this 25), .long (j_this 26), .ref h_this_page, .int (i_this 28)])), (h_this_dayAt, .inl (cI, 8, .inl f_this_dayAt)), (h_this_secondAt, .inl (cI, 8, .inl f_this_secondAt)), (h_this_row, .inl (cJ, 16, .inr (.inl f_this_row)))] := hD
  refine lv_iload_n hx hb dX10_part_5 rfl (lv_at hl 1 rfl) ?_
  have hP : va_P (dC, dI) vwCl [cl_X10 h_this h_this_dayAt h_this_secondAt h_this_spans h_this_kept h_this_text h_this_row h_this_read h_this_many h_this_first h_this_lengths h_this_page (upd i_this 9 (0 : Int32)) j_this, (h_this_dayAt, .inl (cI, 8, .inl f_this_dayAt)), (h_this_secondAt, .inl (cI, 8, .inl f_this_secondAt)), (h_this_row, .inl (cJ, 16, .inr (.inl f_this_row)))] H := hP
  have hD : va_D A [cl_X10 h_this h_this_dayAt h_this_secondAt h_this_spans h_this_kept h_this_text h_this_row h_this_read h_this_many h_this_first h_this_lengths h_this_page (upd i_this 9 (0 : Int32)) j_this, (h_this_dayAt, .inl (cI, 8, .inl f_this_dayAt)), (h_this_secondAt, .inl (cI, 8, .inl f_this_secondAt)), (h_this_row, .inl (cJ, 16, .inr (.inl f_this_row)))] := hD
  obtain ⟨r1, hc2, h⟩ := bd1_at h
  refine kjSI (kS0 (own := "DateSpansModel") (As := [.int p1]) (rest := []) ⟨hx, hb, hml, hown, hts⟩ (kX10_isSlot l N p1 r1 hc2) (kgS (kq q_1123 rfl) (kq q_1124 rfl) (kq q_66 rfl) (kq q_1125 rfl)) yd_X10_isSlot ⟨Nat.le_of_ble_eq_true rfl, Nat.le_of_ble_eq_true rfl⟩ rfl rfl hl.1 rfl (lv_room (Nat.le_of_ble_eq_true rfl)) dX10_part_6) ?_
  refine lv_if_eq (tgt := 52) hx hb dX10_part_9 (by decide) (fun c3 => ?_) (fun c3 => ?_)
  · have h := ite_t c3 h
    refine lv_iconst (v := (-1 : Int32)) hx hb dX10_part_52 (by decide) ?_
    obtain ⟨rfl, rfl, rfl, rfl, rfl⟩ := pj5 h
    exact hEnd _ _ _ _ hP hS dX10_part_53 rfl
  have h := ite_f c3 h
  refine lv_iload_n hx hb dX10_part_12 rfl (lv_at hl 2 rfl) ?_
  obtain ⟨r4, hc5, h⟩ := bd1_at h
  refine kjSI (kS0 (own := "DateSpansModel") (As := [.int p2]) (rest := []) ⟨hx, hb, hml, hown, hts⟩ (kX10_isSlot l N p2 r4 hc5) (kgS (kq q_1123 rfl) (kq q_1124 rfl) (kq q_66 rfl) (kq q_1125 rfl)) yd_X10_isSlot ⟨Nat.le_of_ble_eq_true rfl, Nat.le_of_ble_eq_true rfl⟩ rfl rfl hl.1 rfl (lv_room (Nat.le_of_ble_eq_true rfl)) dX10_part_13) ?_
  refine lv_if_eq (tgt := 52) hx hb dX10_part_16 (by decide) (fun c6 => ?_) (fun c6 => ?_)
  · have h := ite_t c6 h
    refine lv_iconst (v := (-1 : Int32)) hx hb dX10_part_52 (by decide) ?_
    obtain ⟨rfl, rfl, rfl, rfl, rfl⟩ := pj5 h
    exact hEnd _ _ _ _ hP hS dX10_part_53 rfl
  have h := ite_f c6 h
  refine lv_iload hx hb dX10_part_19 (lv_at hl 4 rfl) ?_
  refine lv_i2l hx hb dX10_part_21 rfl ?_
  refine lv_lconst (v := (1 : Int64)) hx hb dX10_part_22 (by decide) ?_
  refine lv_ldc2 (v := (1000 : Int64)) hx hb hown (hts _ (kq q_1412 rfl)) dX10_part_23 ?_
  obtain ⟨r7, hc8, h⟩ := bd1_at h
  refine kjSI (kS0 (own := "DateSpansModel") (As := [.long p4.toInt64, .long (1 : Int64), .long (1000 : Int64)]) (rest := []) ⟨hx, hb, hml, hown, hts⟩ (kX10_in l N p4.toInt64 (1 : Int64) (1000 : Int64) r7 hc8) (kgS (kq q_1086 rfl) (kq q_1087 rfl) (kq q_66 rfl) (kq q_1088 rfl)) yd_X10_in ⟨Nat.le_of_ble_eq_true rfl, Nat.le_of_ble_eq_true rfl⟩ rfl rfl hl.1 rfl (lv_room (Nat.le_of_ble_eq_true rfl)) dX10_part_26) ?_
  refine lv_if_eq (tgt := 52) hx hb dX10_part_29 (by decide) (fun c9 => ?_) (fun c9 => ?_)
  · have h := ite_t c9 h
    refine lv_iconst (v := (-1 : Int32)) hx hb dX10_part_52 (by decide) ?_
    obtain ⟨rfl, rfl, rfl, rfl, rfl⟩ := pj5 h
    exact hEnd _ _ _ _ hP hS dX10_part_53 rfl
  have h := ite_f c9 h
  refine lv_iload_n hx hb dX10_part_32 rfl (lv_at hl 3 rfl) ?_
  refine lv_i2l hx hb dX10_part_33 rfl ?_
  refine lv_lconst (v := (0 : Int64)) hx hb dX10_part_34 (by decide) ?_
  refine lv_iload hx hb dX10_part_35 (lv_at hl 4 rfl) ?_
  refine lv_i2l hx hb dX10_part_37 rfl ?_
  obtain ⟨r10, hc11, h⟩ := bd1_at h
  refine kjSI (kS0 (own := "DateSpansModel") (As := [.long p3.toInt64, .long (0 : Int64), .long p4.toInt64]) (rest := []) ⟨hx, hb, hml, hown, hts⟩ (kX10_in l N p3.toInt64 (0 : Int64) p4.toInt64 r10 hc11) (kgS (kq q_1086 rfl) (kq q_1087 rfl) (kq q_66 rfl) (kq q_1088 rfl)) yd_X10_in ⟨Nat.le_of_ble_eq_true rfl, Nat.le_of_ble_eq_true rfl⟩ rfl rfl hl.1 rfl (lv_room (Nat.le_of_ble_eq_true rfl)) dX10_part_38) ?_
  refine lv_if_eq (tgt := 52) hx hb dX10_part_41 (by decide) (fun c12 => ?_) (fun c12 => ?_)
  · have h := ite_t c12 h
    refine lv_iconst (v := (-1 : Int32)) hx hb dX10_part_52 (by decide) ?_
    obtain ⟨rfl, rfl, rfl, rfl, rfl⟩ := pj5 h
    exact hEnd _ _ _ _ hP hS dX10_part_53 rfl
  have h := ite_f c12 h
  refine lv_iload hx hb dX10_part_44 (lv_at hl 5 rfl) ?_
  obtain ⟨r13, hc14, h⟩ := bd1_at h
  refine kjSI (kS0 (own := "DateSpansModel") (As := [.int p5]) (rest := []) ⟨hx, hb, hml, hown, hts⟩ (kX10_isSlot l N p5 r13 hc14) (kgS (kq q_1123 rfl) (kq q_1124 rfl) (kq q_66 rfl) (kq q_1125 rfl)) yd_X10_isSlot ⟨Nat.le_of_ble_eq_true rfl, Nat.le_of_ble_eq_true rfl⟩ rfl rfl hl.1 rfl (lv_room (Nat.le_of_ble_eq_true rfl)) dX10_part_46) ?_
  refine lv_if_ne (tgt := 54) hx hb dX10_part_49 (by decide) (fun c15 => ?_) (fun c15 => ?_)
  · have h := ite_f c15 h
    refine lv_aload_n hx hb dX10_part_54 rfl (lv_at hl 0 rfl) ?_
    refine lv_iload_n hx hb dX10_part_55 rfl (lv_at hl 1 rfl) ?_
    obtain ⟨r16, hc17, h⟩ := bd1_at h
    refine kjL (kV (own := "DateSpansModel") (C := "DateSpansModel") (b := h_this) (As := [.int p1]) (rest := []) ⟨hx, hb, hml, hown, hts⟩ (kX10_instantOf l dC dI cI cJ cB h_this h_this_dayAt h_this_secondAt h_this_spans h_this_kept h_this_text h_this_row h_this_read h_this_many h_this_first h_this_lengths h_this_page N p1 (upd i_this 9 (0 : Int32)) j_this f_this_dayAt f_this_secondAt r16 hc17 _) (kgV (kq q_1340 rfl) (kq q_1342 rfl) (kq q_39 rfl) (kq q_66 rfl) (kq q_1343 rfl)) yd_X10_instantOf ⟨Nat.le_of_ble_eq_true rfl, Nat.le_of_ble_eq_true rfl⟩ hN hK hP hD [0, 1, 2] rfl rfl (ci := 9) rfl rfl rfl rfl rfl hl.1 rfl (lv_room (Nat.le_of_ble_eq_true rfl)) dX10_part_56) hP hD hS hA [0, 1, 2] rfl rfl (fun H locs hP hD hS => ?_)
    have hP : va_P (dC, dI) vwCl [cl_X10 h_this h_this_dayAt h_this_secondAt h_this_spans h_this_kept h_this_text h_this_row h_this_read h_this_many h_this_first h_this_lengths h_this_page (upd i_this 9 (0 : Int32)) j_this, (h_this_dayAt, .inl (cI, 8, .inl f_this_dayAt)), (h_this_secondAt, .inl (cI, 8, .inl f_this_secondAt)), (h_this_row, .inl (cJ, 16, .inr (.inl f_this_row)))] H := hP
    have hD : va_D A [cl_X10 h_this h_this_dayAt h_this_secondAt h_this_spans h_this_kept h_this_text h_this_row h_this_read h_this_many h_this_first h_this_lengths h_this_page (upd i_this 9 (0 : Int32)) j_this, (h_this_dayAt, .inl (cI, 8, .inl f_this_dayAt)), (h_this_secondAt, .inl (cI, 8, .inl f_this_secondAt)), (h_this_row, .inl (cJ, 16, .inr (.inl f_this_row)))] := hD
    refine lv_aload_n hx hb dX10_part_59 rfl (lv_at hl 0 rfl) ?_
    refine lv_iload_n hx hb dX10_part_60 rfl (lv_at hl 2 rfl) ?_
    obtain ⟨r18, hc19, h⟩ := bd1_at h
    refine kjL (kV (own := "DateSpansModel") (C := "DateSpansModel") (b := h_this) (As := [.int p2]) (rest := [.long r16]) ⟨hx, hb, hml, hown, hts⟩ (kX10_instantOf l dC dI cI cJ cB h_this h_this_dayAt h_this_secondAt h_this_spans h_this_kept h_this_text h_this_row h_this_read h_this_many h_this_first h_this_lengths h_this_page N p2 (upd i_this 9 (0 : Int32)) j_this f_this_dayAt f_this_secondAt r18 hc19 _) (kgV (kq q_1340 rfl) (kq q_1342 rfl) (kq q_39 rfl) (kq q_66 rfl) (kq q_1343 rfl)) yd_X10_instantOf ⟨Nat.le_of_ble_eq_true rfl, Nat.le_of_ble_eq_true rfl⟩ hN hK hP hD [0, 1, 2] rfl rfl (ci := 9) rfl rfl rfl rfl rfl hl.1 rfl (lv_room (Nat.le_of_ble_eq_true rfl)) dX10_part_61) hP hD hS hA [0, 1, 2] rfl rfl (fun H locs hP hD hS => ?_)
    have hP : va_P (dC, dI) vwCl [cl_X10 h_this h_this_dayAt h_this_secondAt h_this_spans h_this_kept h_this_text h_this_row h_this_read h_this_many h_this_first h_this_lengths h_this_page (upd i_this 9 (0 : Int32)) j_this, (h_this_dayAt, .inl (cI, 8, .inl f_this_dayAt)), (h_this_secondAt, .inl (cI, 8, .inl f_this_secondAt)), (h_this_row, .inl (cJ, 16, .inr (.inl f_this_row)))] H := hP
    have hD : va_D A [cl_X10 h_this h_this_dayAt h_this_secondAt h_this_spans h_this_kept h_this_text h_this_row h_this_read h_this_many h_this_first h_this_lengths h_this_page (upd i_this 9 (0 : Int32)) j_this, (h_this_dayAt, .inl (cI, 8, .inl f_this_dayAt)), (h_this_secondAt, .inl (cI, 8, .inl f_this_secondAt)), (h_this_row, .inl (cJ, 16, .inr (.inl f_this_row)))] := hD
    refine lv_aload_n hx hb dX10_part_64 rfl (lv_at hl 0 rfl) ?_
    refine lv_iload_n hx hb dX10_part_65 rfl (lv_at hl 1 rfl) ?_
    obtain ⟨r20, hc21, h⟩ := bd1_at h
    refine kjL (kV (own := "DateSpansModel") (C := "DateSpansModel") (b := h_this) (As := [.int p1]) (rest := [.long r18, .long r16]) ⟨hx, hb, hml, hown, hts⟩ (kX10_instantOf l dC dI cI cJ cB h_this h_this_dayAt h_this_secondAt h_this_spans h_this_kept h_this_text h_this_row h_this_read h_this_many h_this_first h_this_lengths h_this_page N p1 (upd i_this 9 (0 : Int32)) j_this f_this_dayAt f_this_secondAt r20 hc21 _) (kgV (kq q_1340 rfl) (kq q_1342 rfl) (kq q_39 rfl) (kq q_66 rfl) (kq q_1343 rfl)) yd_X10_instantOf ⟨Nat.le_of_ble_eq_true rfl, Nat.le_of_ble_eq_true rfl⟩ hN hK hP hD [0, 1, 2] rfl rfl (ci := 9) rfl rfl rfl rfl rfl hl.1 rfl (lv_room (Nat.le_of_ble_eq_true rfl)) dX10_part_66) hP hD hS hA [0, 1, 2] rfl rfl (fun H locs hP hD hS => ?_)
    have hP : va_P (dC, dI) vwCl [cl_X10 h_this h_this_dayAt h_this_secondAt h_this_spans h_this_kept h_this_text h_this_row h_this_read h_this_many h_this_first h_this_lengths h_this_page (upd i_this 9 (0 : Int32)) j_this, (h_this_dayAt, .inl (cI, 8, .inl f_this_dayAt)), (h_this_secondAt, .inl (cI, 8, .inl f_this_secondAt)), (h_this_row, .inl (cJ, 16, .inr (.inl f_this_row)))] H := hP
    have hD : va_D A [cl_X10 h_this h_this_dayAt h_this_secondAt h_this_spans h_this_kept h_this_text h_this_row h_this_read h_this_many h_this_first h_this_lengths h_this_page (upd i_this 9 (0 : Int32)) j_this, (h_this_dayAt, .inl (cI, 8, .inl f_this_dayAt)), (h_this_secondAt, .inl (cI, 8, .inl f_this_secondAt)), (h_this_row, .inl (cJ, 16, .inr (.inl f_this_row)))] := hD
    refine lv_lsub hx hb dX10_part_69 ?_
    refine lv_iload_n hx hb dX10_part_70 rfl (lv_at hl 3 rfl) ?_
    refine lv_i2l hx hb dX10_part_71 rfl ?_
    refine lv_lmul hx hb dX10_part_72 ?_
    refine lv_iload hx hb dX10_part_73 (lv_at hl 4 rfl) ?_
    refine lv_i2l hx hb dX10_part_75 rfl ?_
    obtain ⟨hn22, h⟩ := gnl_at h
    refine lv_ldiv hx hb dX10_part_76 hn22 ?_
    refine lv_ladd hx hb dX10_part_77 ?_
    refine lv_topl (fun z23 ez23 => ?_)
    have h := nm_at ez23 h
    refine lv_lstore (lv' := [(6, .long z23), (0, .ref h_this), (1, .int p1), (2, .int p2), (3, .int p3), (4, .int p4), (5, .int p5)]) hx hb dX10_part_78 hl (by decide) rfl (fun ls hl => ?_)
    refine lv_aload_n hx hb dX10_part_80 rfl (lv_at hl 1 rfl) ?_
    refine lv_lload hx hb dX10_part_81 (lv_at hl 0 rfl) ?_
    refine lv_ldc2 (v := (86400 : Int64)) hx hb hown (hts _ (kq q_1309 rfl)) dX10_part_83 ?_
    refine lv_ldiv hx hb dX10_part_86 (by decide) ?_
    refine lv_l2i hx hb dX10_part_87 rfl ?_
    refine lv_lload hx hb dX10_part_88 (lv_at hl 0 rfl) ?_
    refine lv_ldc2 (v := (86400 : Int64)) hx hb hown (hts _ (kq q_1309 rfl)) dX10_part_90 ?_
    refine lv_lrem hx hb dX10_part_93 (by decide) ?_
    refine lv_l2i hx hb dX10_part_94 rfl ?_
    obtain ⟨i_this_24, hc25, h⟩ := bd1_at h
    refine kjV (kV (own := "DateSpansModel") (C := "DateSpansModel") (b := h_this) (As := [.int ((z23 / (86400 : Int64)).toInt32), .int ((z23 - z23 / (86400 : Int64) * (86400 : Int64)).toInt32)]) (rest := []) ⟨hx, hb, hml, hown, hts⟩ (kX10_stands l dC dI cI cJ cB h_this h_this_dayAt h_this_secondAt h_this_spans h_this_kept h_this_text h_this_row h_this_read h_this_many h_this_first h_this_lengths h_this_page N ((z23 / (86400 : Int64)).toInt32) ((z23 - z23 / (86400 : Int64) * (86400 : Int64)).toInt32) (upd i_this 9 (0 : Int32)) j_this i_this_24 hc25 _) (kgV (kq q_1136 rfl) (kq q_1138 rfl) (kq q_24 rfl) (kq q_66 rfl) (kq q_1139 rfl)) yd_X10_stands ⟨Nat.le_of_ble_eq_true rfl, Nat.le_of_ble_eq_true rfl⟩ hN hK hP hD [0] rfl rfl (ci := 9) rfl rfl rfl rfl rfl hl.1 rfl (lv_room (Nat.le_of_ble_eq_true rfl)) dX10_part_95) hP hD hS hA [0] rfl rfl (fun H locs hP hD hS => ?_)
    have hP : va_P (dC, dI) vwCl [cl_X10 h_this h_this_dayAt h_this_secondAt h_this_spans h_this_kept h_this_text h_this_row h_this_read h_this_many h_this_first h_this_lengths h_this_page i_this_24 j_this, (h_this_dayAt, .inl (cI, 8, .inl f_this_dayAt)), (h_this_secondAt, .inl (cI, 8, .inl f_this_secondAt)), (h_this_row, .inl (cJ, 16, .inr (.inl f_this_row)))] H := hP
    have hD : va_D A [cl_X10 h_this h_this_dayAt h_this_secondAt h_this_spans h_this_kept h_this_text h_this_row h_this_read h_this_many h_this_first h_this_lengths h_this_page i_this_24 j_this, (h_this_dayAt, .inl (cI, 8, .inl f_this_dayAt)), (h_this_secondAt, .inl (cI, 8, .inl f_this_secondAt)), (h_this_row, .inl (cJ, 16, .inr (.inl f_this_row)))] := hD
    refine lv_aload_n hx hb dX10_part_98 rfl (lv_at hl 1 rfl) ?_
    refine lv_iload hx hb dX10_part_99 (lv_at hl 6 rfl) ?_
    obtain ⟨f_this_dayAt_26, f_this_secondAt_27, hc28, h⟩ := bd2_at h
    refine kjV (kV (own := "DateSpansModel") (C := "DateSpansModel") (b := h_this) (As := [.int p5]) (rest := []) ⟨hx, hb, hml, hown, hts⟩ (kX10_comesTo l dC dI cI cJ cB h_this h_this_dayAt h_this_secondAt h_this_spans h_this_kept h_this_text h_this_row h_this_read h_this_many h_this_first h_this_lengths h_this_page N p5 i_this_24 j_this f_this_dayAt f_this_secondAt f_this_dayAt_26 f_this_secondAt_27 hc28 _) (kgV (kq q_1140 rfl) (kq q_1142 rfl) (kq q_25 rfl) (kq q_66 rfl) (kq q_1143 rfl)) yd_X10_comesTo ⟨Nat.le_of_ble_eq_true rfl, Nat.le_of_ble_eq_true rfl⟩ hN hK hP hD [0, 1, 2] rfl rfl (ci := 9) rfl rfl rfl rfl rfl hl.1 rfl (lv_room (Nat.le_of_ble_eq_true rfl)) dX10_part_101) hP hD hS hA [0, 1, 2] rfl rfl (fun H locs hP hD hS => ?_)
    have hP : va_P (dC, dI) vwCl [cl_X10 h_this h_this_dayAt h_this_secondAt h_this_spans h_this_kept h_this_text h_this_row h_this_read h_this_many h_this_first h_this_lengths h_this_page i_this_24 j_this, (h_this_dayAt, .inl (cI, 8, .inl f_this_dayAt_26)), (h_this_secondAt, .inl (cI, 8, .inl f_this_secondAt_27)), (h_this_row, .inl (cJ, 16, .inr (.inl f_this_row)))] H := hP
    have hD : va_D A [cl_X10 h_this h_this_dayAt h_this_secondAt h_this_spans h_this_kept h_this_text h_this_row h_this_read h_this_many h_this_first h_this_lengths h_this_page i_this_24 j_this, (h_this_dayAt, .inl (cI, 8, .inl f_this_dayAt_26)), (h_this_secondAt, .inl (cI, 8, .inl f_this_secondAt_27)), (h_this_row, .inl (cJ, 16, .inr (.inl f_this_row)))] := hD
    refine lv_aload_n hx hb dX10_part_104 rfl (lv_at hl 1 rfl) ?_
    refine lv_iconst (v := (0 : Int32)) hx hb dX10_part_105 (by decide) ?_
    refine va_put (D := (dC, dI)) (ci := 9) (v := .int (0 : Int32)) (ty := .int) (C := RX10) (T := TX10) (N := 29) hx hb hts inX10 tyX10 tyX10_ok nmX10 hown hK hP hD hS 0 rfl rfl 8 (by decide) (hts _ (kq q_994 rfl)) (fun _ h9 => h9) rfl (by decide +kernel) rfl rfl (Nat.le_of_ble_eq_true rfl) dX10_part_106 (fun H locs hP hD hS => ?_)
    have hP : va_P (dC, dI) vwCl [(h_this, .inr (9, [.ref h_this_dayAt, .ref h_this_secondAt, .ref h_this_spans, .ref h_this_kept, .int (i_this_24 4), .ref h_this_text, .int (i_this_24 6), .ref h_this_row, .int (0 : Int32), .int (i_this_24 9), .int (i_this_24 10), .int (i_this_24 11), .int (i_this_24 12), .int (i_this_24 13), .int (i_this_24 14), .int (i_this_24 15), .int (i_this_24 16), .int (i_this_24 17), .int (i_this_24 18), .ref h_this_read, .long (j_this 20), .ref h_this_many, .ref h_this_first, .ref h_this_lengths, .int (i_this_24 24), .long (j_this 25), .long (j_this 26), .ref h_this_page, .int (i_this_24 28)])), (h_this_dayAt, .inl (cI, 8, .inl f_this_dayAt_26)), (h_this_secondAt, .inl (cI, 8, .inl f_this_secondAt_27)), (h_this_row, .inl (cJ, 16, .inr (.inl f_this_row)))] H := hP
    have hD : va_D A [(h_this, .inr (9, [.ref h_this_dayAt, .ref h_this_secondAt, .ref h_this_spans, .ref h_this_kept, .int (i_this_24 4), .ref h_this_text, .int (i_this_24 6), .ref h_this_row, .int (0 : Int32), .int (i_this_24 9), .int (i_this_24 10), .int (i_this_24 11), .int (i_this_24 12), .int (i_this_24 13), .int (i_this_24 14), .int (i_this_24 15), .int (i_this_24 16), .int (i_this_24 17), .int (i_this_24 18), .ref h_this_read, .long (j_this 20), .ref h_this_many, .ref h_this_first, .ref h_this_lengths, .int (i_this_24 24), .long (j_this 25), .long (j_this 26), .ref h_this_page, .int (i_this_24 28)])), (h_this_dayAt, .inl (cI, 8, .inl f_this_dayAt_26)), (h_this_secondAt, .inl (cI, 8, .inl f_this_secondAt_27)), (h_this_row, .inl (cJ, 16, .inr (.inl f_this_row)))] := hD
    refine lv_aload_n hx hb dX10_part_109 rfl (lv_at hl 1 rfl) ?_
    refine lv_aload_n hx hb dX10_part_110 rfl (lv_at hl 1 rfl) ?_
    refine va_get (D := (dC, dI)) (ci := 9) (v := .int (i_this_24 14)) (C := RX10) (T := TX10) (N := 29) hx hb hts inX10 hown hK hP 0 rfl rfl 14 (by decide) (hts _ (kq q_1000 rfl)) (fun _ h9 => h9) rfl dX10_part_111 ?_
    refine lv_i2l hx hb dX10_part_114 rfl ?_
    have hP : va_P (dC, dI) vwCl [cl_X10 h_this h_this_dayAt h_this_secondAt h_this_spans h_this_kept h_this_text h_this_row h_this_read h_this_many h_this_first h_this_lengths h_this_page (upd i_this_24 8 (0 : Int32)) j_this, (h_this_dayAt, .inl (cI, 8, .inl f_this_dayAt_26)), (h_this_secondAt, .inl (cI, 8, .inl f_this_secondAt_27)), (h_this_row, .inl (cJ, 16, .inr (.inl f_this_row)))] H := hP
    have hD : va_D A [cl_X10 h_this h_this_dayAt h_this_secondAt h_this_spans h_this_kept h_this_text h_this_row h_this_read h_this_many h_this_first h_this_lengths h_this_page (upd i_this_24 8 (0 : Int32)) j_this, (h_this_dayAt, .inl (cI, 8, .inl f_this_dayAt_26)), (h_this_secondAt, .inl (cI, 8, .inl f_this_secondAt_27)), (h_this_row, .inl (cJ, 16, .inr (.inl f_this_row)))] := hD
    obtain ⟨i_this_29, f_this_row_30, hc31, h⟩ := bd2_at h
    refine kjV (kV (own := "DateSpansModel") (C := "DateSpansModel") (b := h_this) (As := [.long ((i_this_24 14).toInt64)]) (rest := []) ⟨hx, hb, hml, hown, hts⟩ (kX10_tell l dC dI cI cJ cB h_this h_this_dayAt h_this_secondAt h_this_spans h_this_kept h_this_text h_this_row h_this_read h_this_many h_this_first h_this_lengths h_this_page N ((i_this_24 14).toInt64) (upd i_this_24 8 (0 : Int32)) j_this f_this_row i_this_29 f_this_row_30 hc31 _) (kgV (kq q_1221 rfl) (kq q_1223 rfl) (kq q_29 rfl) (kq q_66 rfl) (kq q_1224 rfl)) yd_X10_tell ⟨Nat.le_of_ble_eq_true rfl, Nat.le_of_ble_eq_true rfl⟩ hN hK hP hD [0, 3] rfl rfl (ci := 9) rfl rfl rfl rfl rfl hl.1 rfl (lv_room (Nat.le_of_ble_eq_true rfl)) dX10_part_115) hP hD hS hA [0, 3] rfl rfl (fun H locs hP hD hS => ?_)
    have hP : va_P (dC, dI) vwCl [cl_X10 h_this h_this_dayAt h_this_secondAt h_this_spans h_this_kept h_this_text h_this_row h_this_read h_this_many h_this_first h_this_lengths h_this_page i_this_29 j_this, (h_this_dayAt, .inl (cI, 8, .inl f_this_dayAt_26)), (h_this_secondAt, .inl (cI, 8, .inl f_this_secondAt_27)), (h_this_row, .inl (cJ, 16, .inr (.inl f_this_row_30)))] H := hP
    have hD : va_D A [cl_X10 h_this h_this_dayAt h_this_secondAt h_this_spans h_this_kept h_this_text h_this_row h_this_read h_this_many h_this_first h_this_lengths h_this_page i_this_29 j_this, (h_this_dayAt, .inl (cI, 8, .inl f_this_dayAt_26)), (h_this_secondAt, .inl (cI, 8, .inl f_this_secondAt_27)), (h_this_row, .inl (cJ, 16, .inr (.inl f_this_row_30)))] := hD
    refine lv_aload_n hx hb dX10_part_118 rfl (lv_at hl 1 rfl) ?_
    refine va_get (D := (dC, dI)) (ci := 9) (v := .int (i_this_29 13)) (C := RX10) (T := TX10) (N := 29) hx hb hts inX10 hown hK hP 0 rfl rfl 13 (by decide) (hts _ (kq q_999 rfl)) (fun _ h9 => h9) rfl dX10_part_119 ?_
    obtain ⟨rfl, rfl, rfl, rfl, rfl⟩ := pj5 h
    exact hEnd _ _ _ _ hP hS dX10_part_122 rfl
  have h := ite_t c15 h
  refine lv_iconst (v := (-1 : Int32)) hx hb dX10_part_52 (by decide) ?_
  obtain ⟨rfl, rfl, rfl, rfl, rfl⟩ := pj5 h
  exact hEnd _ _ _ _ hP hS dX10_part_53 rfl
noncomputable def fX10_mean_j93 (N : Nat) (j_this : Nat → Int64) (f_this_dayAt : Nat → Int32) (f_this_secondAt : Nat → Int32) (K_33 : Int32 → Int64 → Int32 → Int32 → Int32 → Int32 → (Nat → Int32) → (Nat → Int64) → Option (Int32 × (Nat → Int32) × (Nat → Int64))) (v1 : Int32) (v2 : Int64) (v4 : Int32) (v6 : Int32) (v7 : Int32) (t0 : Int32) (i_this : Nat → Int32) (f_this_row : Nat → Int64) : Option (Int32 × (Nat → Int32) × (Nat → Int64)) := (if v6 = (-1 : Int32) then (nm (v7 + (1 : Int32)) fun z2 => (K_33 v1 v2 v4 t0 v7 z2 i_this f_this_row)) else (bd1 (fX10_instantOf N v7 i_this j_this f_this_dayAt f_this_secondAt) fun r3 => (bd1 (fX10_instantOf N v6 i_this j_this f_this_dayAt f_this_secondAt) fun r5 => (if (lg_cmp r3 r5) ≤ (0 : Int32) then (nm (v7 + (1 : Int32)) fun z8 => (K_33 v1 v2 v4 t0 v6 z8 i_this f_this_row)) else (nm (v7 + (1 : Int32)) fun z9 => (K_33 v1 v2 v4 t0 v7 z9 i_this f_this_row))))))
noncomputable def fX10_mean_l33 (N : Nat) (j_this : Nat → Int64) (f_this_dayAt : Nat → Int32) (f_this_secondAt : Nat → Int32) (n : Nat) : Int32 → Int64 → Int32 → Int32 → Int32 → Int32 → (Nat → Int32) → (Nat → Int64) → Option (Int32 × (Nat → Int32) × (Nat → Int64)) := Nat.rec (motive := fun _ => Int32 → Int64 → Int32 → Int32 → Int32 → Int32 → (Nat → Int32) → (Nat → Int64) → Option (Int32 × (Nat → Int32) × (Nat → Int64))) (fun _ _ _ _ _ _ _ _ => none) (fun _ K_33 v1 v2 v4 v5 v6 v7 i_this f_this_row => (if (8 : Int32) ≤ v7 then (gnl v4.toInt64 (nm (v2 / v4.toInt64) fun z12 => (bd2 (fX10_tell N (z12 - z12 / (86400 : Int64) * (86400 : Int64)) (upd i_this 8 (0 : Int32)) j_this f_this_row) fun i_this_13 f_this_row_14 => (bd2 (fX10_tell N v5.toInt64 i_this_13 j_this f_this_row_14) fun i_this_16 f_this_row_17 => (bd2 (fX10_tell N v6.toInt64 i_this_16 j_this f_this_row_17) fun i_this_19 f_this_row_20 => (some ((z12 / (86400 : Int64)).toInt32, i_this_19, f_this_row_20))))))) else (if ((v1 >>> (v7 &&& 31)) &&& (1 : Int32)) = (0 : Int32) then (nm (v7 + (1 : Int32)) fun z33 => (K_33 v1 v2 v4 v5 v6 z33 i_this f_this_row)) else (bd1 (fX10_instantOf N v7 i_this j_this f_this_dayAt f_this_secondAt) fun r23 => (nm (v2 + r23) fun z25 => (nm (v4 + (1 : Int32)) fun z26 => (if v5 = (-1 : Int32) then (fX10_mean_j93 N j_this f_this_dayAt f_this_secondAt K_33 v1 z25 z26 v6 v7 v7 i_this f_this_row) else (bd1 (fX10_instantOf N v7 i_this j_this f_this_dayAt f_this_secondAt) fun r28 => (bd1 (fX10_instantOf N v5 i_this j_this f_this_dayAt f_this_secondAt) fun r30 => (if (0 : Int32) ≤ (lg_cmp r28 r30) then (fX10_mean_j93 N j_this f_this_dayAt f_this_secondAt K_33 v1 z25 z26 v6 v7 v5 i_this f_this_row) else (fX10_mean_j93 N j_this f_this_dayAt f_this_secondAt K_33 v1 z25 z26 v6 v7 v7 i_this f_this_row))))))))))) n
theorem fX10_mean_l33_s (N : Nat) (j_this : Nat → Int64) (f_this_dayAt : Nat → Int32) (f_this_secondAt : Nat → Int32) (n : Nat) (v1 : Int32) (v2 : Int64) (v4 : Int32) (v5 : Int32) (v6 : Int32) (v7 : Int32) (i_this : Nat → Int32) (f_this_row : Nat → Int64) : fX10_mean_l33 N j_this f_this_dayAt f_this_secondAt (n + 1) v1 v2 v4 v5 v6 v7 i_this f_this_row = (if (8 : Int32) ≤ v7 then (gnl v4.toInt64 (nm (v2 / v4.toInt64) fun z12 => (bd2 (fX10_tell N (z12 - z12 / (86400 : Int64) * (86400 : Int64)) (upd i_this 8 (0 : Int32)) j_this f_this_row) fun i_this_13 f_this_row_14 => (bd2 (fX10_tell N v5.toInt64 i_this_13 j_this f_this_row_14) fun i_this_16 f_this_row_17 => (bd2 (fX10_tell N v6.toInt64 i_this_16 j_this f_this_row_17) fun i_this_19 f_this_row_20 => (some ((z12 / (86400 : Int64)).toInt32, i_this_19, f_this_row_20))))))) else (if ((v1 >>> (v7 &&& 31)) &&& (1 : Int32)) = (0 : Int32) then (nm (v7 + (1 : Int32)) fun z33 => ((fX10_mean_l33 N j_this f_this_dayAt f_this_secondAt n) v1 v2 v4 v5 v6 z33 i_this f_this_row)) else (bd1 (fX10_instantOf N v7 i_this j_this f_this_dayAt f_this_secondAt) fun r23 => (nm (v2 + r23) fun z25 => (nm (v4 + (1 : Int32)) fun z26 => (if v5 = (-1 : Int32) then (fX10_mean_j93 N j_this f_this_dayAt f_this_secondAt (fX10_mean_l33 N j_this f_this_dayAt f_this_secondAt n) v1 z25 z26 v6 v7 v7 i_this f_this_row) else (bd1 (fX10_instantOf N v7 i_this j_this f_this_dayAt f_this_secondAt) fun r28 => (bd1 (fX10_instantOf N v5 i_this j_this f_this_dayAt f_this_secondAt) fun r30 => (if (0 : Int32) ≤ (lg_cmp r28 r30) then (fX10_mean_j93 N j_this f_this_dayAt f_this_secondAt (fX10_mean_l33 N j_this f_this_dayAt f_this_secondAt n) v1 z25 z26 v6 v7 v5 i_this f_this_row) else (fX10_mean_j93 N j_this f_this_dayAt f_this_secondAt (fX10_mean_l33 N j_this f_this_dayAt f_this_secondAt n) v1 z25 z26 v6 v7 v7 i_this f_this_row)))))))))) := rfl
theorem fX10_mean_l33_0 (N : Nat) (j_this : Nat → Int64) (f_this_dayAt : Nat → Int32) (f_this_secondAt : Nat → Int32) (v1 : Int32) (v2 : Int64) (v4 : Int32) (v5 : Int32) (v6 : Int32) (v7 : Int32) (i_this : Nat → Int32) (f_this_row : Nat → Int64) : fX10_mean_l33 N j_this f_this_dayAt f_this_secondAt 0 v1 v2 v4 v5 v6 v7 i_this f_this_row = none := rfl
noncomputable def fX10_mean (N : Nat) (p1 : Int32) (i_this : Nat → Int32) (j_this : Nat → Int64) (f_this_dayAt : Nat → Int32) (f_this_secondAt : Nat → Int32) (f_this_row : Nat → Int64) : Option (Int32 × (Nat → Int32) × (Nat → Int64)) := (bd1 (fX10_in N p1.toInt64 (1 : Int64) (255 : Int64)) fun r34 => (if r34 = (0 : Int32) then (some ((-1 : Int32), (upd i_this 9 (0 : Int32)), f_this_row)) else (fX10_mean_l33 N j_this f_this_dayAt f_this_secondAt N p1 (0 : Int64) (0 : Int32) (-1 : Int32) (-1 : Int32) (0 : Int32) (upd i_this 9 (0 : Int32)) f_this_row)))
set_option maxHeartbeats 4000000 in
set_option maxRecDepth 100000 in
theorem kX10_mean (l : Launch) (dC : Nat → ClassId) (dI : Nat → Nat → Nat) (cI cJ cB : ClassId) (h_this h_this_dayAt h_this_secondAt h_this_spans h_this_kept h_this_text h_this_row h_this_read h_this_many h_this_first h_this_lengths h_this_page : Nat) (N : Nat) (p1 : Int32) (i_this : Nat → Int32) (j_this : Nat → Int64) (f_this_dayAt : Nat → Int32) (f_this_secondAt : Nat → Int32) (f_this_row : Nat → Int64) (r : Int32) (o_i_this : Nat → Int32) (o_f_this_row : Nat → Int64) (hf : fX10_mean N p1 i_this j_this f_this_dayAt f_this_secondAt f_this_row = some (r, o_i_this, o_f_this_row)) : MI l yX10_mean (kws yX10_mean cX10_mean 9 (some .int)) (kR 1 25) (dC, dI) (kT cI cJ cB) [.ref h_this, .int p1] [cl_X10 h_this h_this_dayAt h_this_secondAt h_this_spans h_this_kept h_this_text h_this_row h_this_read h_this_many h_this_first h_this_lengths h_this_page i_this j_this, (h_this_dayAt, .inl (cI, 8, .inl f_this_dayAt)), (h_this_secondAt, .inl (cI, 8, .inl f_this_secondAt)), (h_this_row, .inl (cJ, 16, .inr (.inl f_this_row)))] [cl_X10 h_this h_this_dayAt h_this_secondAt h_this_spans h_this_kept h_this_text h_this_row h_this_read h_this_many h_this_first h_this_lengths h_this_page o_i_this j_this, (h_this_dayAt, .inl (cI, 8, .inl f_this_dayAt)), (h_this_secondAt, .inl (cI, 8, .inl f_this_secondAt)), (h_this_row, .inl (cJ, 16, .inr (.inl o_f_this_row)))] r := by
  refine MI.of (cc := cX10_mean) (maxL := 9) (by decide) (Nat.le_of_ble_eq_true rfl) (fun p e s m args below meth c A Q ls KC hN hK hP hD hA hl hEnd => ?_)
  obtain ⟨hx, hb, hml, hown, hts⟩ := KC
  have hown : s.vm.findClass "DateSpansModel" = some m.cls := hown
  have hl : lv_has ls 9 [(0, .ref h_this), (1, .int p1)] := hl
  have hS : va_S A s.heap s.heap [] := va_S.rf
  have LP_33 : ∀ n_33 : Nat, ∀ (v1 : Int32) (v2 : Int64) (v4 : Int32) (v5 : Int32) (v6 : Int32) (v7 : Int32) (i_this : Nat → Int32) (f_this_row : Nat → Int64) (ls : Array Slot) (H : Heap) (locs : List Loc), fX10_mean_l33 N j_this f_this_dayAt f_this_secondAt n_33 v1 v2 v4 v5 v6 v7 i_this f_this_row = some (r, o_i_this, o_f_this_row) → lv_has ls 9 [(0, .ref h_this), (1, .int v1), (2, .long v2), (4, .int v4), (5, .int v5), (6, .int v6), (7, .int v7)] → va_P (dC, dI) vwCl [cl_X10 h_this h_this_dayAt h_this_secondAt h_this_spans h_this_kept h_this_text h_this_row h_this_read h_this_many h_this_first h_this_lengths h_this_page i_this j_this, (h_this_dayAt, .inl (cI, 8, .inl f_this_dayAt)), (h_this_secondAt, .inl (cI, 8, .inl f_this_secondAt)), (h_this_row, .inl (cJ, 16, .inr (.inl f_this_row)))] H → va_D A [cl_X10 h_this h_this_dayAt h_this_secondAt h_this_spans h_this_kept h_this_text h_this_row h_this_read h_this_many h_this_first h_this_lengths h_this_page i_this j_this, (h_this_dayAt, .inl (cI, 8, .inl f_this_dayAt)), (h_this_secondAt, .inl (cI, 8, .inl f_this_secondAt)), (h_this_row, .inl (cJ, 16, .inr (.inl f_this_row)))] → va_S A s.heap H locs → W p l e (kR 1 25) s m args below meth c H locs 0 0 Q (F0 m 33 ls []) := by
    intro n_33
    induction n_33 with
    | zero =>
      intro v1 v2 v4 v5 v6 v7 i_this f_this_row ls H locs h hl hP hD hS
      rw [fX10_mean_l33_0] at h; cases h
    | succ n_33 ih_33 =>
      have JN_93 : ∀ (v1 : Int32) (v2 : Int64) (v4 : Int32) (v6 : Int32) (v7 : Int32) (t0 : Int32) (i_this : Nat → Int32) (f_this_row : Nat → Int64) (ls : Array Slot) (H : Heap) (locs : List Loc), (fX10_mean_j93 N j_this f_this_dayAt f_this_secondAt (fX10_mean_l33 N j_this f_this_dayAt f_this_secondAt n_33)) v1 v2 v4 v6 v7 t0 i_this f_this_row = some (r, o_i_this, o_f_this_row) → lv_has ls 9 [(0, .ref h_this), (1, .int v1), (2, .long v2), (4, .int v4), (6, .int v6), (7, .int v7)] → va_P (dC, dI) vwCl [cl_X10 h_this h_this_dayAt h_this_secondAt h_this_spans h_this_kept h_this_text h_this_row h_this_read h_this_many h_this_first h_this_lengths h_this_page i_this j_this, (h_this_dayAt, .inl (cI, 8, .inl f_this_dayAt)), (h_this_secondAt, .inl (cI, 8, .inl f_this_secondAt)), (h_this_row, .inl (cJ, 16, .inr (.inl f_this_row)))] H → va_D A [cl_X10 h_this h_this_dayAt h_this_secondAt h_this_spans h_this_kept h_this_text h_this_row h_this_read h_this_many h_this_first h_this_lengths h_this_page i_this j_this, (h_this_dayAt, .inl (cI, 8, .inl f_this_dayAt)), (h_this_secondAt, .inl (cI, 8, .inl f_this_secondAt)), (h_this_row, .inl (cJ, 16, .inr (.inl f_this_row)))] → va_S A s.heap H locs → W p l e (kR 1 25) s m args below meth c H locs 0 0 Q (F0 m 93 ls [.int t0]) := by
        intro v1 v2 v4 v6 v7 t0 i_this f_this_row ls H locs h hl hP hD hS
        unfold fX10_mean_j93 at h
        refine lv_istore (lv' := [(5, .int t0), (0, .ref h_this), (1, .int v1), (2, .long v2), (4, .int v4), (6, .int v6), (7, .int v7)]) hx hb dX10_mean_93 hl (by decide) rfl (fun ls hl => ?_)
        refine lv_iload hx hb dX10_mean_95 (lv_at hl 5 rfl) ?_
        refine lv_iconst (v := (-1 : Int32)) hx hb dX10_mean_97 (by decide) ?_
        refine lv_icmp_eq (tgt := 117) hx hb dX10_mean_98 (by decide) (fun c1 => ?_) (fun c1 => ?_)
        · have h := ite_t c1 h
          refine lv_iload hx hb dX10_mean_117 (lv_at hl 6 rfl) ?_
          refine lv_goto (tgt := 124) hx hb dX10_mean_119 (by decide) ?_
          refine lv_istore (lv' := [(6, .int v7), (5, .int t0), (0, .ref h_this), (1, .int v1), (2, .long v2), (4, .int v4), (7, .int v7)]) hx hb dX10_mean_124 hl (by decide) rfl (fun ls hl => ?_)
          obtain ⟨z2, ez2⟩ : ∃ y : Int32, y = (v7 + (1 : Int32)) := ⟨_, rfl⟩
          have h := nm_at ez2 h
          refine lv_iinc (v := z2) (lv' := [(7, .int z2), (6, .int v7), (5, .int t0), (0, .ref h_this), (1, .int v1), (2, .long v2), (4, .int v4)]) hx hb dX10_mean_126 hl (k := 6) rfl (by rw [ez2]; rfl) (by decide) rfl (fun ls hl => ?_)
          refine lv_goto (tgt := 33) hx hb dX10_mean_129 (by decide) ?_
          exact ih_33 _ _ _ _ _ _ _ _ _ _ _ h (lv_sub hl [3, 4, 5, 6, 2, 1, 0] rfl) hP hD hS
        have h := ite_f c1 h
        refine lv_aload_n hx hb dX10_mean_101 rfl (lv_at hl 1 rfl) ?_
        refine lv_iload hx hb dX10_mean_102 (lv_at hl 6 rfl) ?_
        obtain ⟨r3, hc4, h⟩ := bd1_at h
        refine kjL (kV (own := "DateSpansModel") (C := "DateSpansModel") (b := h_this) (As := [.int v7]) (rest := []) ⟨hx, hb, hml, hown, hts⟩ (kX10_instantOf l dC dI cI cJ cB h_this h_this_dayAt h_this_secondAt h_this_spans h_this_kept h_this_text h_this_row h_this_read h_this_many h_this_first h_this_lengths h_this_page N v7 i_this j_this f_this_dayAt f_this_secondAt r3 hc4 _) (kgV (kq q_1340 rfl) (kq q_1342 rfl) (kq q_39 rfl) (kq q_66 rfl) (kq q_1343 rfl)) yd_X10_instantOf ⟨Nat.le_of_ble_eq_true rfl, Nat.le_of_ble_eq_true rfl⟩ hN hK hP hD [0, 1, 2] rfl rfl (ci := 9) rfl rfl rfl rfl rfl hl.1 rfl (lv_room (Nat.le_of_ble_eq_true rfl)) dX10_mean_104) hP hD hS hA [0, 1, 2] rfl rfl (fun H locs hP hD hS => ?_)
        have hP : va_P (dC, dI) vwCl [cl_X10 h_this h_this_dayAt h_this_secondAt h_this_spans h_this_kept h_this_text h_this_row h_this_read h_this_many h_this_first h_this_lengths h_this_page i_this j_this, (h_this_dayAt, .inl (cI, 8, .inl f_this_dayAt)), (h_this_secondAt, .inl (cI, 8, .inl f_this_secondAt)), (h_this_row, .inl (cJ, 16, .inr (.inl f_this_row)))] H := hP
        have hD : va_D A [cl_X10 h_this h_this_dayAt h_this_secondAt h_this_spans h_this_kept h_this_text h_this_row h_this_read h_this_many h_this_first h_this_lengths h_this_page i_this j_this, (h_this_dayAt, .inl (cI, 8, .inl f_this_dayAt)), (h_this_secondAt, .inl (cI, 8, .inl f_this_secondAt)), (h_this_row, .inl (cJ, 16, .inr (.inl f_this_row)))] := hD
        refine lv_aload_n hx hb dX10_mean_107 rfl (lv_at hl 1 rfl) ?_
        refine lv_iload hx hb dX10_mean_108 (lv_at hl 5 rfl) ?_
        obtain ⟨r5, hc6, h⟩ := bd1_at h
        refine kjL (kV (own := "DateSpansModel") (C := "DateSpansModel") (b := h_this) (As := [.int v6]) (rest := [.long r3]) ⟨hx, hb, hml, hown, hts⟩ (kX10_instantOf l dC dI cI cJ cB h_this h_this_dayAt h_this_secondAt h_this_spans h_this_kept h_this_text h_this_row h_this_read h_this_many h_this_first h_this_lengths h_this_page N v6 i_this j_this f_this_dayAt f_this_secondAt r5 hc6 _) (kgV (kq q_1340 rfl) (kq q_1342 rfl) (kq q_39 rfl) (kq q_66 rfl) (kq q_1343 rfl)) yd_X10_instantOf ⟨Nat.le_of_ble_eq_true rfl, Nat.le_of_ble_eq_true rfl⟩ hN hK hP hD [0, 1, 2] rfl rfl (ci := 9) rfl rfl rfl rfl rfl hl.1 rfl (lv_room (Nat.le_of_ble_eq_true rfl)) dX10_mean_110) hP hD hS hA [0, 1, 2] rfl rfl (fun H locs hP hD hS => ?_)
        have hP : va_P (dC, dI) vwCl [cl_X10 h_this h_this_dayAt h_this_secondAt h_this_spans h_this_kept h_this_text h_this_row h_this_read h_this_many h_this_first h_this_lengths h_this_page i_this j_this, (h_this_dayAt, .inl (cI, 8, .inl f_this_dayAt)), (h_this_secondAt, .inl (cI, 8, .inl f_this_secondAt)), (h_this_row, .inl (cJ, 16, .inr (.inl f_this_row)))] H := hP
        have hD : va_D A [cl_X10 h_this h_this_dayAt h_this_secondAt h_this_spans h_this_kept h_this_text h_this_row h_this_read h_this_many h_this_first h_this_lengths h_this_page i_this j_this, (h_this_dayAt, .inl (cI, 8, .inl f_this_dayAt)), (h_this_secondAt, .inl (cI, 8, .inl f_this_secondAt)), (h_this_row, .inl (cJ, 16, .inr (.inl f_this_row)))] := hD
        refine W.lcmp hx hb dX10_mean_113 ?_
        refine lv_if_le (tgt := 122) hx hb dX10_mean_114 (by decide) (fun c7 => ?_) (fun c7 => ?_)
        · have h := ite_t c7 h
          refine lv_iload hx hb dX10_mean_122 (lv_at hl 5 rfl) ?_
          refine lv_istore (lv' := [(6, .int v6), (5, .int t0), (0, .ref h_this), (1, .int v1), (2, .long v2), (4, .int v4), (7, .int v7)]) hx hb dX10_mean_124 hl (by decide) rfl (fun ls hl => ?_)
          obtain ⟨z8, ez8⟩ : ∃ y : Int32, y = (v7 + (1 : Int32)) := ⟨_, rfl⟩
          have h := nm_at ez8 h
          refine lv_iinc (v := z8) (lv' := [(7, .int z8), (6, .int v6), (5, .int t0), (0, .ref h_this), (1, .int v1), (2, .long v2), (4, .int v4)]) hx hb dX10_mean_126 hl (k := 6) rfl (by rw [ez8]; rfl) (by decide) rfl (fun ls hl => ?_)
          refine lv_goto (tgt := 33) hx hb dX10_mean_129 (by decide) ?_
          exact ih_33 _ _ _ _ _ _ _ _ _ _ _ h (lv_sub hl [3, 4, 5, 6, 2, 1, 0] rfl) hP hD hS
        have h := ite_f c7 h
        refine lv_iload hx hb dX10_mean_117 (lv_at hl 6 rfl) ?_
        refine lv_goto (tgt := 124) hx hb dX10_mean_119 (by decide) ?_
        refine lv_istore (lv' := [(6, .int v7), (5, .int t0), (0, .ref h_this), (1, .int v1), (2, .long v2), (4, .int v4), (7, .int v7)]) hx hb dX10_mean_124 hl (by decide) rfl (fun ls hl => ?_)
        obtain ⟨z9, ez9⟩ : ∃ y : Int32, y = (v7 + (1 : Int32)) := ⟨_, rfl⟩
        have h := nm_at ez9 h
        refine lv_iinc (v := z9) (lv' := [(7, .int z9), (6, .int v7), (5, .int t0), (0, .ref h_this), (1, .int v1), (2, .long v2), (4, .int v4)]) hx hb dX10_mean_126 hl (k := 6) rfl (by rw [ez9]; rfl) (by decide) rfl (fun ls hl => ?_)
        refine lv_goto (tgt := 33) hx hb dX10_mean_129 (by decide) ?_
        exact ih_33 _ _ _ _ _ _ _ _ _ _ _ h (lv_sub hl [3, 4, 5, 6, 2, 1, 0] rfl) hP hD hS
      intro v1 v2 v4 v5 v6 v7 i_this f_this_row ls H locs h hl hP hD hS
      rw [fX10_mean_l33_s] at h
      refine lv_iload hx hb dX10_mean_33 (lv_at hl 6 rfl) ?_
      refine lv_bipush (v := (8 : Int32)) hx hb dX10_mean_35 (by decide) ?_
      refine lv_icmp_ge (tgt := 132) hx hb dX10_mean_37 (by decide) (fun c10 => ?_) (fun c10 => ?_)
      · have h := ite_t c10 h
        refine lv_lload_n hx hb dX10_mean_132 rfl (lv_at hl 2 rfl) ?_
        refine lv_iload hx hb dX10_mean_133 (lv_at hl 3 rfl) ?_
        refine lv_i2l hx hb dX10_mean_135 rfl ?_
        obtain ⟨hn11, h⟩ := gnl_at h
        refine lv_ldiv hx hb dX10_mean_136 hn11 ?_
        refine lv_topl (fun z12 ez12 => ?_)
        have h := nm_at ez12 h
        refine lv_lstore (lv' := [(7, .long z12), (0, .ref h_this), (1, .int v1), (2, .long v2), (4, .int v4), (5, .int v5), (6, .int v6)]) hx hb dX10_mean_137 hl (by decide) rfl (fun ls hl => ?_)
        refine lv_aload_n hx hb dX10_mean_139 rfl (lv_at hl 1 rfl) ?_
        refine lv_iconst (v := (0 : Int32)) hx hb dX10_mean_140 (by decide) ?_
        refine va_put (D := (dC, dI)) (ci := 9) (v := .int (0 : Int32)) (ty := .int) (C := RX10) (T := TX10) (N := 29) hx hb hts inX10 tyX10 tyX10_ok nmX10 hown hK hP hD hS 0 rfl rfl 8 (by decide) (hts _ (kq q_994 rfl)) (fun _ h9 => h9) rfl (by decide +kernel) rfl rfl (Nat.le_of_ble_eq_true rfl) dX10_mean_141 (fun H locs hP hD hS => ?_)
        have hP : va_P (dC, dI) vwCl [(h_this, .inr (9, [.ref h_this_dayAt, .ref h_this_secondAt, .ref h_this_spans, .ref h_this_kept, .int (i_this 4), .ref h_this_text, .int (i_this 6), .ref h_this_row, .int (0 : Int32), .int (i_this 9), .int (i_this 10), .int (i_this 11), .int (i_this 12), .int (i_this 13), .int (i_this 14), .int (i_this 15), .int (i_this 16), .int (i_this 17), .int (i_this 18), .ref h_this_read, .long (j_this 20), .ref h_this_many, .ref h_this_first, .ref h_this_lengths, .int (i_this 24), .long (j_this 25), .long (j_this 26), .ref h_this_page, .int (i_this 28)])), (h_this_dayAt, .inl (cI, 8, .inl f_this_dayAt)), (h_this_secondAt, .inl (cI, 8, .inl f_this_secondAt)), (h_this_row, .inl (cJ, 16, .inr (.inl f_this_row)))] H := hP
        have hD : va_D A [(h_this, .inr (9, [.ref h_this_dayAt, .ref h_this_secondAt, .ref h_this_spans, .ref h_this_kept, .int (i_this 4), .ref h_this_text, .int (i_this 6), .ref h_this_row, .int (0 : Int32), .int (i_this 9), .int (i_this 10), .int (i_this 11), .int (i_this 12), .int (i_this 13), .int (i_this 14), .int (i_this 15), .int (i_this 16), .int (i_this 17), .int (i_this 18), .ref h_this_read, .long (j_this 20), .ref h_this_many, .ref h_this_first, .ref h_this_lengths, .int (i_this 24), .long (j_this 25), .long (j_this 26), .ref h_this_page, .int (i_this 28)])), (h_this_dayAt, .inl (cI, 8, .inl f_this_dayAt)), (h_this_secondAt, .inl (cI, 8, .inl f_this_secondAt)), (h_this_row, .inl (cJ, 16, .inr (.inl f_this_row)))] := hD
        refine lv_aload_n hx hb dX10_mean_144 rfl (lv_at hl 1 rfl) ?_
        refine lv_lload hx hb dX10_mean_145 (lv_at hl 0 rfl) ?_
        refine lv_ldc2 (v := (86400 : Int64)) hx hb hown (hts _ (kq q_1309 rfl)) dX10_mean_147 ?_
        refine lv_lrem hx hb dX10_mean_150 (by decide) ?_
        have hP : va_P (dC, dI) vwCl [cl_X10 h_this h_this_dayAt h_this_secondAt h_this_spans h_this_kept h_this_text h_this_row h_this_read h_this_many h_this_first h_this_lengths h_this_page (upd i_this 8 (0 : Int32)) j_this, (h_this_dayAt, .inl (cI, 8, .inl f_this_dayAt)), (h_this_secondAt, .inl (cI, 8, .inl f_this_secondAt)), (h_this_row, .inl (cJ, 16, .inr (.inl f_this_row)))] H := hP
        have hD : va_D A [cl_X10 h_this h_this_dayAt h_this_secondAt h_this_spans h_this_kept h_this_text h_this_row h_this_read h_this_many h_this_first h_this_lengths h_this_page (upd i_this 8 (0 : Int32)) j_this, (h_this_dayAt, .inl (cI, 8, .inl f_this_dayAt)), (h_this_secondAt, .inl (cI, 8, .inl f_this_secondAt)), (h_this_row, .inl (cJ, 16, .inr (.inl f_this_row)))] := hD
        obtain ⟨i_this_13, f_this_row_14, hc15, h⟩ := bd2_at h
        refine kjV (kV (own := "DateSpansModel") (C := "DateSpansModel") (b := h_this) (As := [.long (z12 - z12 / (86400 : Int64) * (86400 : Int64))]) (rest := []) ⟨hx, hb, hml, hown, hts⟩ (kX10_tell l dC dI cI cJ cB h_this h_this_dayAt h_this_secondAt h_this_spans h_this_kept h_this_text h_this_row h_this_read h_this_many h_this_first h_this_lengths h_this_page N (z12 - z12 / (86400 : Int64) * (86400 : Int64)) (upd i_this 8 (0 : Int32)) j_this f_this_row i_this_13 f_this_row_14 hc15 _) (kgV (kq q_1221 rfl) (kq q_1223 rfl) (kq q_29 rfl) (kq q_66 rfl) (kq q_1224 rfl)) yd_X10_tell ⟨Nat.le_of_ble_eq_true rfl, Nat.le_of_ble_eq_true rfl⟩ hN hK hP hD [0, 3] rfl rfl (ci := 9) rfl rfl rfl rfl rfl hl.1 rfl (lv_room (Nat.le_of_ble_eq_true rfl)) dX10_mean_151) hP hD hS hA [0, 3] rfl rfl (fun H locs hP hD hS => ?_)
        have hP : va_P (dC, dI) vwCl [cl_X10 h_this h_this_dayAt h_this_secondAt h_this_spans h_this_kept h_this_text h_this_row h_this_read h_this_many h_this_first h_this_lengths h_this_page i_this_13 j_this, (h_this_dayAt, .inl (cI, 8, .inl f_this_dayAt)), (h_this_secondAt, .inl (cI, 8, .inl f_this_secondAt)), (h_this_row, .inl (cJ, 16, .inr (.inl f_this_row_14)))] H := hP
        have hD : va_D A [cl_X10 h_this h_this_dayAt h_this_secondAt h_this_spans h_this_kept h_this_text h_this_row h_this_read h_this_many h_this_first h_this_lengths h_this_page i_this_13 j_this, (h_this_dayAt, .inl (cI, 8, .inl f_this_dayAt)), (h_this_secondAt, .inl (cI, 8, .inl f_this_secondAt)), (h_this_row, .inl (cJ, 16, .inr (.inl f_this_row_14)))] := hD
        refine lv_aload_n hx hb dX10_mean_154 rfl (lv_at hl 1 rfl) ?_
        refine lv_iload hx hb dX10_mean_155 (lv_at hl 5 rfl) ?_
        refine lv_i2l hx hb dX10_mean_157 rfl ?_
        obtain ⟨i_this_16, f_this_row_17, hc18, h⟩ := bd2_at h
        refine kjV (kV (own := "DateSpansModel") (C := "DateSpansModel") (b := h_this) (As := [.long v5.toInt64]) (rest := []) ⟨hx, hb, hml, hown, hts⟩ (kX10_tell l dC dI cI cJ cB h_this h_this_dayAt h_this_secondAt h_this_spans h_this_kept h_this_text h_this_row h_this_read h_this_many h_this_first h_this_lengths h_this_page N v5.toInt64 i_this_13 j_this f_this_row_14 i_this_16 f_this_row_17 hc18 _) (kgV (kq q_1221 rfl) (kq q_1223 rfl) (kq q_29 rfl) (kq q_66 rfl) (kq q_1224 rfl)) yd_X10_tell ⟨Nat.le_of_ble_eq_true rfl, Nat.le_of_ble_eq_true rfl⟩ hN hK hP hD [0, 3] rfl rfl (ci := 9) rfl rfl rfl rfl rfl hl.1 rfl (lv_room (Nat.le_of_ble_eq_true rfl)) dX10_mean_158) hP hD hS hA [0, 3] rfl rfl (fun H locs hP hD hS => ?_)
        have hP : va_P (dC, dI) vwCl [cl_X10 h_this h_this_dayAt h_this_secondAt h_this_spans h_this_kept h_this_text h_this_row h_this_read h_this_many h_this_first h_this_lengths h_this_page i_this_16 j_this, (h_this_dayAt, .inl (cI, 8, .inl f_this_dayAt)), (h_this_secondAt, .inl (cI, 8, .inl f_this_secondAt)), (h_this_row, .inl (cJ, 16, .inr (.inl f_this_row_17)))] H := hP
        have hD : va_D A [cl_X10 h_this h_this_dayAt h_this_secondAt h_this_spans h_this_kept h_this_text h_this_row h_this_read h_this_many h_this_first h_this_lengths h_this_page i_this_16 j_this, (h_this_dayAt, .inl (cI, 8, .inl f_this_dayAt)), (h_this_secondAt, .inl (cI, 8, .inl f_this_secondAt)), (h_this_row, .inl (cJ, 16, .inr (.inl f_this_row_17)))] := hD
        refine lv_aload_n hx hb dX10_mean_161 rfl (lv_at hl 1 rfl) ?_
        refine lv_iload hx hb dX10_mean_162 (lv_at hl 6 rfl) ?_
        refine lv_i2l hx hb dX10_mean_164 rfl ?_
        obtain ⟨i_this_19, f_this_row_20, hc21, h⟩ := bd2_at h
        refine kjV (kV (own := "DateSpansModel") (C := "DateSpansModel") (b := h_this) (As := [.long v6.toInt64]) (rest := []) ⟨hx, hb, hml, hown, hts⟩ (kX10_tell l dC dI cI cJ cB h_this h_this_dayAt h_this_secondAt h_this_spans h_this_kept h_this_text h_this_row h_this_read h_this_many h_this_first h_this_lengths h_this_page N v6.toInt64 i_this_16 j_this f_this_row_17 i_this_19 f_this_row_20 hc21 _) (kgV (kq q_1221 rfl) (kq q_1223 rfl) (kq q_29 rfl) (kq q_66 rfl) (kq q_1224 rfl)) yd_X10_tell ⟨Nat.le_of_ble_eq_true rfl, Nat.le_of_ble_eq_true rfl⟩ hN hK hP hD [0, 3] rfl rfl (ci := 9) rfl rfl rfl rfl rfl hl.1 rfl (lv_room (Nat.le_of_ble_eq_true rfl)) dX10_mean_165) hP hD hS hA [0, 3] rfl rfl (fun H locs hP hD hS => ?_)
        have hP : va_P (dC, dI) vwCl [cl_X10 h_this h_this_dayAt h_this_secondAt h_this_spans h_this_kept h_this_text h_this_row h_this_read h_this_many h_this_first h_this_lengths h_this_page i_this_19 j_this, (h_this_dayAt, .inl (cI, 8, .inl f_this_dayAt)), (h_this_secondAt, .inl (cI, 8, .inl f_this_secondAt)), (h_this_row, .inl (cJ, 16, .inr (.inl f_this_row_20)))] H := hP
        have hD : va_D A [cl_X10 h_this h_this_dayAt h_this_secondAt h_this_spans h_this_kept h_this_text h_this_row h_this_read h_this_many h_this_first h_this_lengths h_this_page i_this_19 j_this, (h_this_dayAt, .inl (cI, 8, .inl f_this_dayAt)), (h_this_secondAt, .inl (cI, 8, .inl f_this_secondAt)), (h_this_row, .inl (cJ, 16, .inr (.inl f_this_row_20)))] := hD
        refine lv_lload hx hb dX10_mean_168 (lv_at hl 0 rfl) ?_
        refine lv_ldc2 (v := (86400 : Int64)) hx hb hown (hts _ (kq q_1309 rfl)) dX10_mean_170 ?_
        refine lv_ldiv hx hb dX10_mean_173 (by decide) ?_
        refine lv_l2i hx hb dX10_mean_174 rfl ?_
        obtain ⟨rfl, rfl, rfl⟩ := pj3 h
        exact hEnd _ _ _ _ hP hS dX10_mean_175 rfl
      have h := ite_f c10 h
      refine lv_iload_n hx hb dX10_mean_40 rfl (lv_at hl 1 rfl) ?_
      refine lv_iload hx hb dX10_mean_41 (lv_at hl 6 rfl) ?_
      refine lv_ishr hx hb dX10_mean_43 ?_
      refine lv_iconst (v := (1 : Int32)) hx hb dX10_mean_44 (by decide) ?_
      refine lv_iand hx hb dX10_mean_45 ?_
      refine lv_if_ne (tgt := 52) hx hb dX10_mean_46 (by decide) (fun c22 => ?_) (fun c22 => ?_)
      · have h := ite_f c22 h
        refine lv_lload_n hx hb dX10_mean_52 rfl (lv_at hl 2 rfl) ?_
        refine lv_aload_n hx hb dX10_mean_53 rfl (lv_at hl 0 rfl) ?_
        refine lv_iload hx hb dX10_mean_54 (lv_at hl 6 rfl) ?_
        obtain ⟨r23, hc24, h⟩ := bd1_at h
        refine kjL (kV (own := "DateSpansModel") (C := "DateSpansModel") (b := h_this) (As := [.int v7]) (rest := [.long v2]) ⟨hx, hb, hml, hown, hts⟩ (kX10_instantOf l dC dI cI cJ cB h_this h_this_dayAt h_this_secondAt h_this_spans h_this_kept h_this_text h_this_row h_this_read h_this_many h_this_first h_this_lengths h_this_page N v7 i_this j_this f_this_dayAt f_this_secondAt r23 hc24 _) (kgV (kq q_1340 rfl) (kq q_1342 rfl) (kq q_39 rfl) (kq q_66 rfl) (kq q_1343 rfl)) yd_X10_instantOf ⟨Nat.le_of_ble_eq_true rfl, Nat.le_of_ble_eq_true rfl⟩ hN hK hP hD [0, 1, 2] rfl rfl (ci := 9) rfl rfl rfl rfl rfl hl.1 rfl (lv_room (Nat.le_of_ble_eq_true rfl)) dX10_mean_56) hP hD hS hA [0, 1, 2] rfl rfl (fun H locs hP hD hS => ?_)
        have hP : va_P (dC, dI) vwCl [cl_X10 h_this h_this_dayAt h_this_secondAt h_this_spans h_this_kept h_this_text h_this_row h_this_read h_this_many h_this_first h_this_lengths h_this_page i_this j_this, (h_this_dayAt, .inl (cI, 8, .inl f_this_dayAt)), (h_this_secondAt, .inl (cI, 8, .inl f_this_secondAt)), (h_this_row, .inl (cJ, 16, .inr (.inl f_this_row)))] H := hP
        have hD : va_D A [cl_X10 h_this h_this_dayAt h_this_secondAt h_this_spans h_this_kept h_this_text h_this_row h_this_read h_this_many h_this_first h_this_lengths h_this_page i_this j_this, (h_this_dayAt, .inl (cI, 8, .inl f_this_dayAt)), (h_this_secondAt, .inl (cI, 8, .inl f_this_secondAt)), (h_this_row, .inl (cJ, 16, .inr (.inl f_this_row)))] := hD
        refine lv_ladd hx hb dX10_mean_59 ?_
        refine lv_topl (fun z25 ez25 => ?_)
        have h := nm_at ez25 h
        refine lv_lstore_n (lv' := [(2, .long z25), (0, .ref h_this), (1, .int v1), (4, .int v4), (5, .int v5), (6, .int v6), (7, .int v7)]) hx hb dX10_mean_60 rfl hl (by decide) rfl (fun ls hl => ?_)
        obtain ⟨z26, ez26⟩ : ∃ y : Int32, y = (v4 + (1 : Int32)) := ⟨_, rfl⟩
        have h := nm_at ez26 h
        refine lv_iinc (v := z26) (lv' := [(4, .int z26), (2, .long z25), (0, .ref h_this), (1, .int v1), (5, .int v5), (6, .int v6), (7, .int v7)]) hx hb dX10_mean_61 hl (k := 3) rfl (by rw [ez26]; rfl) (by decide) rfl (fun ls hl => ?_)
        refine lv_iload hx hb dX10_mean_64 (lv_at hl 4 rfl) ?_
        refine lv_iconst (v := (-1 : Int32)) hx hb dX10_mean_66 (by decide) ?_
        refine lv_icmp_eq (tgt := 86) hx hb dX10_mean_67 (by decide) (fun c27 => ?_) (fun c27 => ?_)
        · have h := ite_t c27 h
          refine lv_iload hx hb dX10_mean_86 (lv_at hl 6 rfl) ?_
          refine lv_goto (tgt := 93) hx hb dX10_mean_88 (by decide) ?_
          exact JN_93 _ _ _ _ _ _ _ _ _ _ _ h (lv_sub hl [2, 3, 1, 0, 5, 6] rfl) hP hD hS
        have h := ite_f c27 h
        refine lv_aload_n hx hb dX10_mean_70 rfl (lv_at hl 2 rfl) ?_
        refine lv_iload hx hb dX10_mean_71 (lv_at hl 6 rfl) ?_
        obtain ⟨r28, hc29, h⟩ := bd1_at h
        refine kjL (kV (own := "DateSpansModel") (C := "DateSpansModel") (b := h_this) (As := [.int v7]) (rest := []) ⟨hx, hb, hml, hown, hts⟩ (kX10_instantOf l dC dI cI cJ cB h_this h_this_dayAt h_this_secondAt h_this_spans h_this_kept h_this_text h_this_row h_this_read h_this_many h_this_first h_this_lengths h_this_page N v7 i_this j_this f_this_dayAt f_this_secondAt r28 hc29 _) (kgV (kq q_1340 rfl) (kq q_1342 rfl) (kq q_39 rfl) (kq q_66 rfl) (kq q_1343 rfl)) yd_X10_instantOf ⟨Nat.le_of_ble_eq_true rfl, Nat.le_of_ble_eq_true rfl⟩ hN hK hP hD [0, 1, 2] rfl rfl (ci := 9) rfl rfl rfl rfl rfl hl.1 rfl (lv_room (Nat.le_of_ble_eq_true rfl)) dX10_mean_73) hP hD hS hA [0, 1, 2] rfl rfl (fun H locs hP hD hS => ?_)
        have hP : va_P (dC, dI) vwCl [cl_X10 h_this h_this_dayAt h_this_secondAt h_this_spans h_this_kept h_this_text h_this_row h_this_read h_this_many h_this_first h_this_lengths h_this_page i_this j_this, (h_this_dayAt, .inl (cI, 8, .inl f_this_dayAt)), (h_this_secondAt, .inl (cI, 8, .inl f_this_secondAt)), (h_this_row, .inl (cJ, 16, .inr (.inl f_this_row)))] H := hP
        have hD : va_D A [cl_X10 h_this h_this_dayAt h_this_secondAt h_this_spans h_this_kept h_this_text h_this_row h_this_read h_this_many h_this_first h_this_lengths h_this_page i_this j_this, (h_this_dayAt, .inl (cI, 8, .inl f_this_dayAt)), (h_this_secondAt, .inl (cI, 8, .inl f_this_secondAt)), (h_this_row, .inl (cJ, 16, .inr (.inl f_this_row)))] := hD
        refine lv_aload_n hx hb dX10_mean_76 rfl (lv_at hl 2 rfl) ?_
        refine lv_iload hx hb dX10_mean_77 (lv_at hl 4 rfl) ?_
        obtain ⟨r30, hc31, h⟩ := bd1_at h
        refine kjL (kV (own := "DateSpansModel") (C := "DateSpansModel") (b := h_this) (As := [.int v5]) (rest := [.long r28]) ⟨hx, hb, hml, hown, hts⟩ (kX10_instantOf l dC dI cI cJ cB h_this h_this_dayAt h_this_secondAt h_this_spans h_this_kept h_this_text h_this_row h_this_read h_this_many h_this_first h_this_lengths h_this_page N v5 i_this j_this f_this_dayAt f_this_secondAt r30 hc31 _) (kgV (kq q_1340 rfl) (kq q_1342 rfl) (kq q_39 rfl) (kq q_66 rfl) (kq q_1343 rfl)) yd_X10_instantOf ⟨Nat.le_of_ble_eq_true rfl, Nat.le_of_ble_eq_true rfl⟩ hN hK hP hD [0, 1, 2] rfl rfl (ci := 9) rfl rfl rfl rfl rfl hl.1 rfl (lv_room (Nat.le_of_ble_eq_true rfl)) dX10_mean_79) hP hD hS hA [0, 1, 2] rfl rfl (fun H locs hP hD hS => ?_)
        have hP : va_P (dC, dI) vwCl [cl_X10 h_this h_this_dayAt h_this_secondAt h_this_spans h_this_kept h_this_text h_this_row h_this_read h_this_many h_this_first h_this_lengths h_this_page i_this j_this, (h_this_dayAt, .inl (cI, 8, .inl f_this_dayAt)), (h_this_secondAt, .inl (cI, 8, .inl f_this_secondAt)), (h_this_row, .inl (cJ, 16, .inr (.inl f_this_row)))] H := hP
        have hD : va_D A [cl_X10 h_this h_this_dayAt h_this_secondAt h_this_spans h_this_kept h_this_text h_this_row h_this_read h_this_many h_this_first h_this_lengths h_this_page i_this j_this, (h_this_dayAt, .inl (cI, 8, .inl f_this_dayAt)), (h_this_secondAt, .inl (cI, 8, .inl f_this_secondAt)), (h_this_row, .inl (cJ, 16, .inr (.inl f_this_row)))] := hD
        refine W.lcmp hx hb dX10_mean_82 ?_
        refine lv_if_ge (tgt := 91) hx hb dX10_mean_83 (by decide) (fun c32 => ?_) (fun c32 => ?_)
        · have h := ite_t c32 h
          refine lv_iload hx hb dX10_mean_91 (lv_at hl 4 rfl) ?_
          exact JN_93 _ _ _ _ _ _ _ _ _ _ _ h (lv_sub hl [2, 3, 1, 0, 5, 6] rfl) hP hD hS
        have h := ite_f c32 h
        refine lv_iload hx hb dX10_mean_86 (lv_at hl 6 rfl) ?_
        refine lv_goto (tgt := 93) hx hb dX10_mean_88 (by decide) ?_
        exact JN_93 _ _ _ _ _ _ _ _ _ _ _ h (lv_sub hl [2, 3, 1, 0, 5, 6] rfl) hP hD hS
      have h := ite_t c22 h
      refine lv_goto (tgt := 126) hx hb dX10_mean_49 (by decide) ?_
      obtain ⟨z33, ez33⟩ : ∃ y : Int32, y = (v7 + (1 : Int32)) := ⟨_, rfl⟩
      have h := nm_at ez33 h
      refine lv_iinc (v := z33) (lv' := [(7, .int z33), (0, .ref h_this), (1, .int v1), (2, .long v2), (4, .int v4), (5, .int v5), (6, .int v6)]) hx hb dX10_mean_126 hl (k := 6) rfl (by rw [ez33]; rfl) (by decide) rfl (fun ls hl => ?_)
      refine lv_goto (tgt := 33) hx hb dX10_mean_129 (by decide) ?_
      exact ih_33 _ _ _ _ _ _ _ _ _ _ _ h (lv_sub hl [1, 2, 3, 4, 5, 6, 0] rfl) hP hD hS
  have h := hf
  unfold fX10_mean at h
  refine lv_aload_n hx hb dX10_mean_0 rfl (lv_at hl 0 rfl) ?_
  refine lv_iconst (v := (0 : Int32)) hx hb dX10_mean_1 (by decide) ?_
  refine va_put (D := (dC, dI)) (ci := 9) (v := .int (0 : Int32)) (ty := .int) (C := RX10) (T := TX10) (N := 29) hx hb hts inX10 tyX10 tyX10_ok nmX10 hown hK hP hD hS 0 rfl rfl 9 (by decide) (hts _ (kq q_995 rfl)) (fun _ h9 => h9) rfl (by decide +kernel) rfl rfl (Nat.le_of_ble_eq_true rfl) dX10_mean_2 (fun H locs hP hD hS => ?_)
  have hP : va_P (dC, dI) vwCl [(h_this, .inr (9, [.ref h_this_dayAt, .ref h_this_secondAt, .ref h_this_spans, .ref h_this_kept, .int (i_this 4), .ref h_this_text, .int (i_this 6), .ref h_this_row, .int (i_this 8), .int (0 : Int32), .int (i_this 10), .int (i_this 11), .int (i_this 12), .int (i_this 13), .int (i_this 14), .int (i_this 15), .int (i_this 16), .int (i_this 17), .int (i_this 18), .ref h_this_read, .long (j_this 20), .ref h_this_many, .ref h_this_first, .ref h_this_lengths, .int (i_this 24), .long (j_this 25), .long (j_this 26), .ref h_this_page, .int (i_this 28)])), (h_this_dayAt, .inl (cI, 8, .inl f_this_dayAt)), (h_this_secondAt, .inl (cI, 8, .inl f_this_secondAt)), (h_this_row, .inl (cJ, 16, .inr (.inl f_this_row)))] H := hP
  have hD : va_D A [(h_this, .inr (9, [.ref h_this_dayAt, .ref h_this_secondAt, .ref h_this_spans, .ref h_this_kept, .int (i_this 4), .ref h_this_text, .int (i_this 6), .ref h_this_row, .int (i_this 8), .int (0 : Int32), .int (i_this 10), .int (i_this 11), .int (i_this 12), .int (i_this 13), .int (i_this 14), .int (i_this 15), .int (i_this 16), .int (i_this 17), .int (i_this 18), .ref h_this_read, .long (j_this 20), .ref h_this_many, .ref h_this_first, .ref h_this_lengths, .int (i_this 24), .long (j_this 25), .long (j_this 26), .ref h_this_page, .int (i_this 28)])), (h_this_dayAt, .inl (cI, 8, .inl f_this_dayAt)), (h_this_secondAt, .inl (cI, 8, .inl f_this_secondAt)), (h_this_row, .inl (cJ, 16, .inr (.inl f_this_row)))] := hD
  refine lv_iload_n hx hb dX10_mean_5 rfl (lv_at hl 1 rfl) ?_
  refine lv_i2l hx hb dX10_mean_6 rfl ?_
  refine lv_lconst (v := (1 : Int64)) hx hb dX10_mean_7 (by decide) ?_
  refine lv_ldc2 (v := (255 : Int64)) hx hb hown (hts _ (kq q_1488 rfl)) dX10_mean_8 ?_
  have hP : va_P (dC, dI) vwCl [cl_X10 h_this h_this_dayAt h_this_secondAt h_this_spans h_this_kept h_this_text h_this_row h_this_read h_this_many h_this_first h_this_lengths h_this_page (upd i_this 9 (0 : Int32)) j_this, (h_this_dayAt, .inl (cI, 8, .inl f_this_dayAt)), (h_this_secondAt, .inl (cI, 8, .inl f_this_secondAt)), (h_this_row, .inl (cJ, 16, .inr (.inl f_this_row)))] H := hP
  have hD : va_D A [cl_X10 h_this h_this_dayAt h_this_secondAt h_this_spans h_this_kept h_this_text h_this_row h_this_read h_this_many h_this_first h_this_lengths h_this_page (upd i_this 9 (0 : Int32)) j_this, (h_this_dayAt, .inl (cI, 8, .inl f_this_dayAt)), (h_this_secondAt, .inl (cI, 8, .inl f_this_secondAt)), (h_this_row, .inl (cJ, 16, .inr (.inl f_this_row)))] := hD
  obtain ⟨r34, hc35, h⟩ := bd1_at h
  refine kjSI (kS0 (own := "DateSpansModel") (As := [.long p1.toInt64, .long (1 : Int64), .long (255 : Int64)]) (rest := []) ⟨hx, hb, hml, hown, hts⟩ (kX10_in l N p1.toInt64 (1 : Int64) (255 : Int64) r34 hc35) (kgS (kq q_1086 rfl) (kq q_1087 rfl) (kq q_66 rfl) (kq q_1088 rfl)) yd_X10_in ⟨Nat.le_of_ble_eq_true rfl, Nat.le_of_ble_eq_true rfl⟩ rfl rfl hl.1 rfl (lv_room (Nat.le_of_ble_eq_true rfl)) dX10_mean_11) ?_
  refine lv_if_ne (tgt := 19) hx hb dX10_mean_14 (by decide) (fun c36 => ?_) (fun c36 => ?_)
  · have h := ite_f c36 h
    refine lv_lconst (v := (0 : Int64)) hx hb dX10_mean_19 (by decide) ?_
    refine lv_lstore_n (lv' := [(2, .long (0 : Int64)), (0, .ref h_this), (1, .int p1)]) hx hb dX10_mean_20 rfl hl (by decide) rfl (fun ls hl => ?_)
    refine lv_iconst (v := (0 : Int32)) hx hb dX10_mean_21 (by decide) ?_
    refine lv_istore (lv' := [(4, .int (0 : Int32)), (2, .long (0 : Int64)), (0, .ref h_this), (1, .int p1)]) hx hb dX10_mean_22 hl (by decide) rfl (fun ls hl => ?_)
    refine lv_iconst (v := (-1 : Int32)) hx hb dX10_mean_24 (by decide) ?_
    refine lv_istore (lv' := [(5, .int (-1 : Int32)), (4, .int (0 : Int32)), (2, .long (0 : Int64)), (0, .ref h_this), (1, .int p1)]) hx hb dX10_mean_25 hl (by decide) rfl (fun ls hl => ?_)
    refine lv_iconst (v := (-1 : Int32)) hx hb dX10_mean_27 (by decide) ?_
    refine lv_istore (lv' := [(6, .int (-1 : Int32)), (5, .int (-1 : Int32)), (4, .int (0 : Int32)), (2, .long (0 : Int64)), (0, .ref h_this), (1, .int p1)]) hx hb dX10_mean_28 hl (by decide) rfl (fun ls hl => ?_)
    refine lv_iconst (v := (0 : Int32)) hx hb dX10_mean_30 (by decide) ?_
    refine lv_istore (lv' := [(7, .int (0 : Int32)), (6, .int (-1 : Int32)), (5, .int (-1 : Int32)), (4, .int (0 : Int32)), (2, .long (0 : Int64)), (0, .ref h_this), (1, .int p1)]) hx hb dX10_mean_31 hl (by decide) rfl (fun ls hl => ?_)
    exact LP_33 N _ _ _ _ _ _ _ _ _ _ _ h (lv_sub hl [5, 6, 4, 3, 2, 1, 0] rfl) hP hD hS
  have h := ite_t c36 h
  refine lv_iconst (v := (-1 : Int32)) hx hb dX10_mean_17 (by decide) ?_
  obtain ⟨rfl, rfl, rfl⟩ := pj3 h
  exact hEnd _ _ _ _ hP hS dX10_mean_18 rfl
noncomputable def fX10_sorts_l25 (N : Nat) (j_this : Nat → Int64) (f_this_dayAt : Nat → Int32) (f_this_secondAt : Nat → Int32) (K_14 : Int32 → Int32 → (Nat → Int32) → (Nat → Int64) → Option (Int32 × (Nat → Int32) × (Nat → Int64))) (n : Nat) : Int32 → Int32 → Int32 → Int32 → (Nat → Int32) → (Nat → Int64) → Option (Int32 × (Nat → Int32) × (Nat → Int64)) := Nat.rec (motive := fun _ => Int32 → Int32 → Int32 → Int32 → (Nat → Int32) → (Nat → Int64) → Option (Int32 × (Nat → Int32) × (Nat → Int64))) (fun _ _ _ _ _ _ => none) (fun _ K_25 v1 v2 v3 v4 i_this f_this_row => (if (8 : Int32) ≤ v4 then (nm (v1 ||| ((1 : Int32) <<< (v3 &&& 31))) fun z2 => (bd2 (fX10_tell N v3.toInt64 i_this j_this f_this_row) fun i_this_3 f_this_row_4 => (nm (v2 + (1 : Int32)) fun z6 => (K_14 z2 z6 i_this_3 f_this_row_4)))) else (if ((v1 >>> (v4 &&& 31)) &&& (1 : Int32)) = (0 : Int32) then (if v3 = (-1 : Int32) then (nm (v4 + (1 : Int32)) fun z10 => (K_25 v1 v2 v4 z10 i_this f_this_row)) else (bd1 (fX10_instantOf N v4 i_this j_this f_this_dayAt f_this_secondAt) fun r11 => (bd1 (fX10_instantOf N v3 i_this j_this f_this_dayAt f_this_secondAt) fun r13 => (if (0 : Int32) ≤ (lg_cmp r11 r13) then (nm (v4 + (1 : Int32)) fun z16 => (K_25 v1 v2 v3 z16 i_this f_this_row)) else (nm (v4 + (1 : Int32)) fun z17 => (K_25 v1 v2 v4 z17 i_this f_this_row)))))) else (nm (v4 + (1 : Int32)) fun z8 => (K_25 v1 v2 v3 z8 i_this f_this_row))))) n
theorem fX10_sorts_l25_s (N : Nat) (j_this : Nat → Int64) (f_this_dayAt : Nat → Int32) (f_this_secondAt : Nat → Int32) (K_14 : Int32 → Int32 → (Nat → Int32) → (Nat → Int64) → Option (Int32 × (Nat → Int32) × (Nat → Int64))) (n : Nat) (v1 : Int32) (v2 : Int32) (v3 : Int32) (v4 : Int32) (i_this : Nat → Int32) (f_this_row : Nat → Int64) : fX10_sorts_l25 N j_this f_this_dayAt f_this_secondAt K_14 (n + 1) v1 v2 v3 v4 i_this f_this_row = (if (8 : Int32) ≤ v4 then (nm (v1 ||| ((1 : Int32) <<< (v3 &&& 31))) fun z2 => (bd2 (fX10_tell N v3.toInt64 i_this j_this f_this_row) fun i_this_3 f_this_row_4 => (nm (v2 + (1 : Int32)) fun z6 => (K_14 z2 z6 i_this_3 f_this_row_4)))) else (if ((v1 >>> (v4 &&& 31)) &&& (1 : Int32)) = (0 : Int32) then (if v3 = (-1 : Int32) then (nm (v4 + (1 : Int32)) fun z10 => ((fX10_sorts_l25 N j_this f_this_dayAt f_this_secondAt K_14 n) v1 v2 v4 z10 i_this f_this_row)) else (bd1 (fX10_instantOf N v4 i_this j_this f_this_dayAt f_this_secondAt) fun r11 => (bd1 (fX10_instantOf N v3 i_this j_this f_this_dayAt f_this_secondAt) fun r13 => (if (0 : Int32) ≤ (lg_cmp r11 r13) then (nm (v4 + (1 : Int32)) fun z16 => ((fX10_sorts_l25 N j_this f_this_dayAt f_this_secondAt K_14 n) v1 v2 v3 z16 i_this f_this_row)) else (nm (v4 + (1 : Int32)) fun z17 => ((fX10_sorts_l25 N j_this f_this_dayAt f_this_secondAt K_14 n) v1 v2 v4 z17 i_this f_this_row)))))) else (nm (v4 + (1 : Int32)) fun z8 => ((fX10_sorts_l25 N j_this f_this_dayAt f_this_secondAt K_14 n) v1 v2 v3 z8 i_this f_this_row)))) := rfl
theorem fX10_sorts_l25_0 (N : Nat) (j_this : Nat → Int64) (f_this_dayAt : Nat → Int32) (f_this_secondAt : Nat → Int32) (K_14 : Int32 → Int32 → (Nat → Int32) → (Nat → Int64) → Option (Int32 × (Nat → Int32) × (Nat → Int64))) (v1 : Int32) (v2 : Int32) (v3 : Int32) (v4 : Int32) (i_this : Nat → Int32) (f_this_row : Nat → Int64) : fX10_sorts_l25 N j_this f_this_dayAt f_this_secondAt K_14 0 v1 v2 v3 v4 i_this f_this_row = none := rfl
noncomputable def fX10_sorts_l14 (N : Nat) (j_this : Nat → Int64) (f_this_dayAt : Nat → Int32) (f_this_secondAt : Nat → Int32) (n : Nat) : Int32 → Int32 → (Nat → Int32) → (Nat → Int64) → Option (Int32 × (Nat → Int32) × (Nat → Int64)) := Nat.rec (motive := fun _ => Int32 → Int32 → (Nat → Int32) → (Nat → Int64) → Option (Int32 × (Nat → Int32) × (Nat → Int64))) (fun _ _ _ _ => none) (fun _ K_14 v1 v2 i_this f_this_row => (if (8 : Int32) ≤ v2 then (gi (0 : Int32) 16 (some ((f_this_row (0 : Int32).toNatClampNeg).toInt32, i_this, f_this_row))) else (fX10_sorts_l25 N j_this f_this_dayAt f_this_secondAt K_14 N v1 v2 (-1 : Int32) (0 : Int32) i_this f_this_row))) n
theorem fX10_sorts_l14_s (N : Nat) (j_this : Nat → Int64) (f_this_dayAt : Nat → Int32) (f_this_secondAt : Nat → Int32) (n : Nat) (v1 : Int32) (v2 : Int32) (i_this : Nat → Int32) (f_this_row : Nat → Int64) : fX10_sorts_l14 N j_this f_this_dayAt f_this_secondAt (n + 1) v1 v2 i_this f_this_row = (if (8 : Int32) ≤ v2 then (gi (0 : Int32) 16 (some ((f_this_row (0 : Int32).toNatClampNeg).toInt32, i_this, f_this_row))) else (fX10_sorts_l25 N j_this f_this_dayAt f_this_secondAt (fX10_sorts_l14 N j_this f_this_dayAt f_this_secondAt n) N v1 v2 (-1 : Int32) (0 : Int32) i_this f_this_row)) := rfl
theorem fX10_sorts_l14_0 (N : Nat) (j_this : Nat → Int64) (f_this_dayAt : Nat → Int32) (f_this_secondAt : Nat → Int32) (v1 : Int32) (v2 : Int32) (i_this : Nat → Int32) (f_this_row : Nat → Int64) : fX10_sorts_l14 N j_this f_this_dayAt f_this_secondAt 0 v1 v2 i_this f_this_row = none := rfl
noncomputable def fX10_sorts (N : Nat) (i_this : Nat → Int32) (j_this : Nat → Int64) (f_this_dayAt : Nat → Int32) (f_this_secondAt : Nat → Int32) (f_this_row : Nat → Int64) : Option (Int32 × (Nat → Int32) × (Nat → Int64)) := (fX10_sorts_l14 N j_this f_this_dayAt f_this_secondAt N (0 : Int32) (0 : Int32) (upd (upd i_this 8 (0 : Int32)) 9 (0 : Int32)) f_this_row)
set_option maxHeartbeats 4000000 in
set_option maxRecDepth 100000 in
theorem kX10_sorts (l : Launch) (dC : Nat → ClassId) (dI : Nat → Nat → Nat) (cI cJ cB : ClassId) (h_this h_this_dayAt h_this_secondAt h_this_spans h_this_kept h_this_text h_this_row h_this_read h_this_many h_this_first h_this_lengths h_this_page : Nat) (N : Nat) (i_this : Nat → Int32) (j_this : Nat → Int64) (f_this_dayAt : Nat → Int32) (f_this_secondAt : Nat → Int32) (f_this_row : Nat → Int64) (r : Int32) (o_i_this : Nat → Int32) (o_f_this_row : Nat → Int64) (hf : fX10_sorts N i_this j_this f_this_dayAt f_this_secondAt f_this_row = some (r, o_i_this, o_f_this_row)) : MI l yX10_sorts (kws yX10_sorts cX10_sorts 5 (some .int)) (kR 1 22) (dC, dI) (kT cI cJ cB) [.ref h_this] [cl_X10 h_this h_this_dayAt h_this_secondAt h_this_spans h_this_kept h_this_text h_this_row h_this_read h_this_many h_this_first h_this_lengths h_this_page i_this j_this, (h_this_dayAt, .inl (cI, 8, .inl f_this_dayAt)), (h_this_secondAt, .inl (cI, 8, .inl f_this_secondAt)), (h_this_row, .inl (cJ, 16, .inr (.inl f_this_row)))] [cl_X10 h_this h_this_dayAt h_this_secondAt h_this_spans h_this_kept h_this_text h_this_row h_this_read h_this_many h_this_first h_this_lengths h_this_page o_i_this j_this, (h_this_dayAt, .inl (cI, 8, .inl f_this_dayAt)), (h_this_secondAt, .inl (cI, 8, .inl f_this_secondAt)), (h_this_row, .inl (cJ, 16, .inr (.inl o_f_this_row)))] r := by
  refine MI.of (cc := cX10_sorts) (maxL := 5) (by decide) (Nat.le_of_ble_eq_true rfl) (fun p e s m args below meth c A Q ls KC hN hK hP hD hA hl hEnd => ?_)
  obtain ⟨hx, hb, hml, hown, hts⟩ := KC
  have hown : s.vm.findClass "DateSpansModel" = some m.cls := hown
  have hl : lv_has ls 5 [(0, .ref h_this)] := hl
  have hS : va_S A s.heap s.heap [] := va_S.rf
  have LP_14 : ∀ n_14 : Nat, ∀ (v1 : Int32) (v2 : Int32) (i_this : Nat → Int32) (f_this_row : Nat → Int64) (ls : Array Slot) (H : Heap) (locs : List Loc), fX10_sorts_l14 N j_this f_this_dayAt f_this_secondAt n_14 v1 v2 i_this f_this_row = some (r, o_i_this, o_f_this_row) → lv_has ls 5 [(0, .ref h_this), (1, .int v1), (2, .int v2)] → va_P (dC, dI) vwCl [cl_X10 h_this h_this_dayAt h_this_secondAt h_this_spans h_this_kept h_this_text h_this_row h_this_read h_this_many h_this_first h_this_lengths h_this_page i_this j_this, (h_this_dayAt, .inl (cI, 8, .inl f_this_dayAt)), (h_this_secondAt, .inl (cI, 8, .inl f_this_secondAt)), (h_this_row, .inl (cJ, 16, .inr (.inl f_this_row)))] H → va_D A [cl_X10 h_this h_this_dayAt h_this_secondAt h_this_spans h_this_kept h_this_text h_this_row h_this_read h_this_many h_this_first h_this_lengths h_this_page i_this j_this, (h_this_dayAt, .inl (cI, 8, .inl f_this_dayAt)), (h_this_secondAt, .inl (cI, 8, .inl f_this_secondAt)), (h_this_row, .inl (cJ, 16, .inr (.inl f_this_row)))] → va_S A s.heap H locs → W p l e (kR 1 22) s m args below meth c H locs 0 0 Q (F0 m 14 ls []) := by
    intro n_14
    induction n_14 with
    | zero =>
      intro v1 v2 i_this f_this_row ls H locs h hl hP hD hS
      rw [fX10_sorts_l14_0] at h; cases h
    | succ n_14 ih_14 =>
      have LP_25 : ∀ n_25 : Nat, ∀ (v1 : Int32) (v2 : Int32) (v3 : Int32) (v4 : Int32) (i_this : Nat → Int32) (f_this_row : Nat → Int64) (ls : Array Slot) (H : Heap) (locs : List Loc), fX10_sorts_l25 N j_this f_this_dayAt f_this_secondAt (fX10_sorts_l14 N j_this f_this_dayAt f_this_secondAt n_14) n_25 v1 v2 v3 v4 i_this f_this_row = some (r, o_i_this, o_f_this_row) → lv_has ls 5 [(0, .ref h_this), (1, .int v1), (2, .int v2), (3, .int v3), (4, .int v4)] → va_P (dC, dI) vwCl [cl_X10 h_this h_this_dayAt h_this_secondAt h_this_spans h_this_kept h_this_text h_this_row h_this_read h_this_many h_this_first h_this_lengths h_this_page i_this j_this, (h_this_dayAt, .inl (cI, 8, .inl f_this_dayAt)), (h_this_secondAt, .inl (cI, 8, .inl f_this_secondAt)), (h_this_row, .inl (cJ, 16, .inr (.inl f_this_row)))] H → va_D A [cl_X10 h_this h_this_dayAt h_this_secondAt h_this_spans h_this_kept h_this_text h_this_row h_this_read h_this_many h_this_first h_this_lengths h_this_page i_this j_this, (h_this_dayAt, .inl (cI, 8, .inl f_this_dayAt)), (h_this_secondAt, .inl (cI, 8, .inl f_this_secondAt)), (h_this_row, .inl (cJ, 16, .inr (.inl f_this_row)))] → va_S A s.heap H locs → W p l e (kR 1 22) s m args below meth c H locs 0 0 Q (F0 m 25 ls []) := by
        intro n_25
        induction n_25 with
        | zero =>
          intro v1 v2 v3 v4 i_this f_this_row ls H locs h hl hP hD hS
          rw [fX10_sorts_l25_0] at h; cases h
        | succ n_25 ih_25 =>
          intro v1 v2 v3 v4 i_this f_this_row ls H locs h hl hP hD hS
          rw [fX10_sorts_l25_s] at h
          refine lv_iload hx hb dX10_sorts_25 (lv_at hl 4 rfl) ?_
          refine lv_bipush (v := (8 : Int32)) hx hb dX10_sorts_27 (by decide) ?_
          refine lv_icmp_ge (tgt := 70) hx hb dX10_sorts_29 (by decide) (fun c1 => ?_) (fun c1 => ?_)
          · have h := ite_t c1 h
            refine lv_iload_n hx hb dX10_sorts_70 rfl (lv_at hl 1 rfl) ?_
            refine lv_iconst (v := (1 : Int32)) hx hb dX10_sorts_71 (by decide) ?_
            refine lv_iload_n hx hb dX10_sorts_72 rfl (lv_at hl 3 rfl) ?_
            refine lv_ishl hx hb dX10_sorts_73 ?_
            refine lv_ior hx hb dX10_sorts_74 ?_
            refine lv_topi (fun z2 ez2 => ?_)
            have h := nm_at ez2 h
            refine lv_istore_n (lv' := [(1, .int z2), (0, .ref h_this), (2, .int v2), (3, .int v3), (4, .int v4)]) hx hb dX10_sorts_75 rfl hl (by decide) rfl (fun ls hl => ?_)
            refine lv_aload_n hx hb dX10_sorts_76 rfl (lv_at hl 1 rfl) ?_
            refine lv_iload_n hx hb dX10_sorts_77 rfl (lv_at hl 3 rfl) ?_
            refine lv_i2l hx hb dX10_sorts_78 rfl ?_
            obtain ⟨i_this_3, f_this_row_4, hc5, h⟩ := bd2_at h
            refine kjV (kV (own := "DateSpansModel") (C := "DateSpansModel") (b := h_this) (As := [.long v3.toInt64]) (rest := []) ⟨hx, hb, hml, hown, hts⟩ (kX10_tell l dC dI cI cJ cB h_this h_this_dayAt h_this_secondAt h_this_spans h_this_kept h_this_text h_this_row h_this_read h_this_many h_this_first h_this_lengths h_this_page N v3.toInt64 i_this j_this f_this_row i_this_3 f_this_row_4 hc5 _) (kgV (kq q_1221 rfl) (kq q_1223 rfl) (kq q_29 rfl) (kq q_66 rfl) (kq q_1224 rfl)) yd_X10_tell ⟨Nat.le_of_ble_eq_true rfl, Nat.le_of_ble_eq_true rfl⟩ hN hK hP hD [0, 3] rfl rfl (ci := 9) rfl rfl rfl rfl rfl hl.1 rfl (lv_room (Nat.le_of_ble_eq_true rfl)) dX10_sorts_79) hP hD hS hA [0, 3] rfl rfl (fun H locs hP hD hS => ?_)
            have hP : va_P (dC, dI) vwCl [cl_X10 h_this h_this_dayAt h_this_secondAt h_this_spans h_this_kept h_this_text h_this_row h_this_read h_this_many h_this_first h_this_lengths h_this_page i_this_3 j_this, (h_this_dayAt, .inl (cI, 8, .inl f_this_dayAt)), (h_this_secondAt, .inl (cI, 8, .inl f_this_secondAt)), (h_this_row, .inl (cJ, 16, .inr (.inl f_this_row_4)))] H := hP
            have hD : va_D A [cl_X10 h_this h_this_dayAt h_this_secondAt h_this_spans h_this_kept h_this_text h_this_row h_this_read h_this_many h_this_first h_this_lengths h_this_page i_this_3 j_this, (h_this_dayAt, .inl (cI, 8, .inl f_this_dayAt)), (h_this_secondAt, .inl (cI, 8, .inl f_this_secondAt)), (h_this_row, .inl (cJ, 16, .inr (.inl f_this_row_4)))] := hD
            obtain ⟨z6, ez6⟩ : ∃ y : Int32, y = (v2 + (1 : Int32)) := ⟨_, rfl⟩
            have h := nm_at ez6 h
            refine lv_iinc (v := z6) (lv' := [(2, .int z6), (1, .int z2), (0, .ref h_this), (3, .int v3), (4, .int v4)]) hx hb dX10_sorts_82 hl (k := 2) rfl (by rw [ez6]; rfl) (by decide) rfl (fun ls hl => ?_)
            refine lv_goto (tgt := 14) hx hb dX10_sorts_85 (by decide) ?_
            exact ih_14 _ _ _ _ _ _ _ h (lv_sub hl [2, 1, 0] rfl) hP hD hS
          have h := ite_f c1 h
          refine lv_iload_n hx hb dX10_sorts_32 rfl (lv_at hl 1 rfl) ?_
          refine lv_iload hx hb dX10_sorts_33 (lv_at hl 4 rfl) ?_
          refine lv_ishr hx hb dX10_sorts_35 ?_
          refine lv_iconst (v := (1 : Int32)) hx hb dX10_sorts_36 (by decide) ?_
          refine lv_iand hx hb dX10_sorts_37 ?_
          refine lv_if_ne (tgt := 64) hx hb dX10_sorts_38 (by decide) (fun c7 => ?_) (fun c7 => ?_)
          · have h := ite_f c7 h
            obtain ⟨z8, ez8⟩ : ∃ y : Int32, y = (v4 + (1 : Int32)) := ⟨_, rfl⟩
            have h := nm_at ez8 h
            refine lv_iinc (v := z8) (lv' := [(4, .int z8), (0, .ref h_this), (1, .int v1), (2, .int v2), (3, .int v3)]) hx hb dX10_sorts_64 hl (k := 4) rfl (by rw [ez8]; rfl) (by decide) rfl (fun ls hl => ?_)
            refine lv_goto (tgt := 25) hx hb dX10_sorts_67 (by decide) ?_
            exact ih_25 _ _ _ _ _ _ _ _ _ h (lv_sub hl [1, 2, 3, 4, 0] rfl) hP hD hS
          have h := ite_t c7 h
          refine lv_iload_n hx hb dX10_sorts_41 rfl (lv_at hl 3 rfl) ?_
          refine lv_iconst (v := (-1 : Int32)) hx hb dX10_sorts_42 (by decide) ?_
          refine lv_icmp_eq (tgt := 61) hx hb dX10_sorts_43 (by decide) (fun c9 => ?_) (fun c9 => ?_)
          · have h := ite_t c9 h
            refine lv_iload hx hb dX10_sorts_61 (lv_at hl 4 rfl) ?_
            refine lv_istore_n (lv' := [(3, .int v4), (0, .ref h_this), (1, .int v1), (2, .int v2), (4, .int v4)]) hx hb dX10_sorts_63 rfl hl (by decide) rfl (fun ls hl => ?_)
            obtain ⟨z10, ez10⟩ : ∃ y : Int32, y = (v4 + (1 : Int32)) := ⟨_, rfl⟩
            have h := nm_at ez10 h
            refine lv_iinc (v := z10) (lv' := [(4, .int z10), (3, .int v4), (0, .ref h_this), (1, .int v1), (2, .int v2)]) hx hb dX10_sorts_64 hl (k := 4) rfl (by rw [ez10]; rfl) (by decide) rfl (fun ls hl => ?_)
            refine lv_goto (tgt := 25) hx hb dX10_sorts_67 (by decide) ?_
            exact ih_25 _ _ _ _ _ _ _ _ _ h (lv_sub hl [2, 3, 4, 1, 0] rfl) hP hD hS
          have h := ite_f c9 h
          refine lv_aload_n hx hb dX10_sorts_46 rfl (lv_at hl 0 rfl) ?_
          refine lv_iload hx hb dX10_sorts_47 (lv_at hl 4 rfl) ?_
          obtain ⟨r11, hc12, h⟩ := bd1_at h
          refine kjL (kV (own := "DateSpansModel") (C := "DateSpansModel") (b := h_this) (As := [.int v4]) (rest := []) ⟨hx, hb, hml, hown, hts⟩ (kX10_instantOf l dC dI cI cJ cB h_this h_this_dayAt h_this_secondAt h_this_spans h_this_kept h_this_text h_this_row h_this_read h_this_many h_this_first h_this_lengths h_this_page N v4 i_this j_this f_this_dayAt f_this_secondAt r11 hc12 _) (kgV (kq q_1340 rfl) (kq q_1342 rfl) (kq q_39 rfl) (kq q_66 rfl) (kq q_1343 rfl)) yd_X10_instantOf ⟨Nat.le_of_ble_eq_true rfl, Nat.le_of_ble_eq_true rfl⟩ hN hK hP hD [0, 1, 2] rfl rfl (ci := 9) rfl rfl rfl rfl rfl hl.1 rfl (lv_room (Nat.le_of_ble_eq_true rfl)) dX10_sorts_49) hP hD hS hA [0, 1, 2] rfl rfl (fun H locs hP hD hS => ?_)
          have hP : va_P (dC, dI) vwCl [cl_X10 h_this h_this_dayAt h_this_secondAt h_this_spans h_this_kept h_this_text h_this_row h_this_read h_this_many h_this_first h_this_lengths h_this_page i_this j_this, (h_this_dayAt, .inl (cI, 8, .inl f_this_dayAt)), (h_this_secondAt, .inl (cI, 8, .inl f_this_secondAt)), (h_this_row, .inl (cJ, 16, .inr (.inl f_this_row)))] H := hP
          have hD : va_D A [cl_X10 h_this h_this_dayAt h_this_secondAt h_this_spans h_this_kept h_this_text h_this_row h_this_read h_this_many h_this_first h_this_lengths h_this_page i_this j_this, (h_this_dayAt, .inl (cI, 8, .inl f_this_dayAt)), (h_this_secondAt, .inl (cI, 8, .inl f_this_secondAt)), (h_this_row, .inl (cJ, 16, .inr (.inl f_this_row)))] := hD
          refine lv_aload_n hx hb dX10_sorts_52 rfl (lv_at hl 0 rfl) ?_
          refine lv_iload_n hx hb dX10_sorts_53 rfl (lv_at hl 3 rfl) ?_
          obtain ⟨r13, hc14, h⟩ := bd1_at h
          refine kjL (kV (own := "DateSpansModel") (C := "DateSpansModel") (b := h_this) (As := [.int v3]) (rest := [.long r11]) ⟨hx, hb, hml, hown, hts⟩ (kX10_instantOf l dC dI cI cJ cB h_this h_this_dayAt h_this_secondAt h_this_spans h_this_kept h_this_text h_this_row h_this_read h_this_many h_this_first h_this_lengths h_this_page N v3 i_this j_this f_this_dayAt f_this_secondAt r13 hc14 _) (kgV (kq q_1340 rfl) (kq q_1342 rfl) (kq q_39 rfl) (kq q_66 rfl) (kq q_1343 rfl)) yd_X10_instantOf ⟨Nat.le_of_ble_eq_true rfl, Nat.le_of_ble_eq_true rfl⟩ hN hK hP hD [0, 1, 2] rfl rfl (ci := 9) rfl rfl rfl rfl rfl hl.1 rfl (lv_room (Nat.le_of_ble_eq_true rfl)) dX10_sorts_54) hP hD hS hA [0, 1, 2] rfl rfl (fun H locs hP hD hS => ?_)
          have hP : va_P (dC, dI) vwCl [cl_X10 h_this h_this_dayAt h_this_secondAt h_this_spans h_this_kept h_this_text h_this_row h_this_read h_this_many h_this_first h_this_lengths h_this_page i_this j_this, (h_this_dayAt, .inl (cI, 8, .inl f_this_dayAt)), (h_this_secondAt, .inl (cI, 8, .inl f_this_secondAt)), (h_this_row, .inl (cJ, 16, .inr (.inl f_this_row)))] H := hP
          have hD : va_D A [cl_X10 h_this h_this_dayAt h_this_secondAt h_this_spans h_this_kept h_this_text h_this_row h_this_read h_this_many h_this_first h_this_lengths h_this_page i_this j_this, (h_this_dayAt, .inl (cI, 8, .inl f_this_dayAt)), (h_this_secondAt, .inl (cI, 8, .inl f_this_secondAt)), (h_this_row, .inl (cJ, 16, .inr (.inl f_this_row)))] := hD
          refine W.lcmp hx hb dX10_sorts_57 ?_
          refine lv_if_ge (tgt := 64) hx hb dX10_sorts_58 (by decide) (fun c15 => ?_) (fun c15 => ?_)
          · have h := ite_t c15 h
            obtain ⟨z16, ez16⟩ : ∃ y : Int32, y = (v4 + (1 : Int32)) := ⟨_, rfl⟩
            have h := nm_at ez16 h
            refine lv_iinc (v := z16) (lv' := [(4, .int z16), (0, .ref h_this), (1, .int v1), (2, .int v2), (3, .int v3)]) hx hb dX10_sorts_64 hl (k := 4) rfl (by rw [ez16]; rfl) (by decide) rfl (fun ls hl => ?_)
            refine lv_goto (tgt := 25) hx hb dX10_sorts_67 (by decide) ?_
            exact ih_25 _ _ _ _ _ _ _ _ _ h (lv_sub hl [1, 2, 3, 4, 0] rfl) hP hD hS
          have h := ite_f c15 h
          refine lv_iload hx hb dX10_sorts_61 (lv_at hl 4 rfl) ?_
          refine lv_istore_n (lv' := [(3, .int v4), (0, .ref h_this), (1, .int v1), (2, .int v2), (4, .int v4)]) hx hb dX10_sorts_63 rfl hl (by decide) rfl (fun ls hl => ?_)
          obtain ⟨z17, ez17⟩ : ∃ y : Int32, y = (v4 + (1 : Int32)) := ⟨_, rfl⟩
          have h := nm_at ez17 h
          refine lv_iinc (v := z17) (lv' := [(4, .int z17), (3, .int v4), (0, .ref h_this), (1, .int v1), (2, .int v2)]) hx hb dX10_sorts_64 hl (k := 4) rfl (by rw [ez17]; rfl) (by decide) rfl (fun ls hl => ?_)
          refine lv_goto (tgt := 25) hx hb dX10_sorts_67 (by decide) ?_
          exact ih_25 _ _ _ _ _ _ _ _ _ h (lv_sub hl [2, 3, 4, 1, 0] rfl) hP hD hS
      intro v1 v2 i_this f_this_row ls H locs h hl hP hD hS
      rw [fX10_sorts_l14_s] at h
      refine lv_iload_n hx hb dX10_sorts_14 rfl (lv_at hl 2 rfl) ?_
      refine lv_bipush (v := (8 : Int32)) hx hb dX10_sorts_15 (by decide) ?_
      refine lv_icmp_ge (tgt := 88) hx hb dX10_sorts_17 (by decide) (fun c18 => ?_) (fun c18 => ?_)
      · have h := ite_t c18 h
        refine lv_aload_n hx hb dX10_sorts_88 rfl (lv_at hl 0 rfl) ?_
        refine va_get (D := (dC, dI)) (ci := 9) (v := .ref h_this_row) (C := RX10) (T := TX10) (N := 29) hx hb hts inX10 hown hK hP 0 rfl rfl 7 (by decide) (hts _ (kq q_993 rfl)) (fun _ h9 => h9) rfl dX10_sorts_89 ?_
        refine lv_iconst (v := (0 : Int32)) hx hb dX10_sorts_92 (by decide) ?_
        obtain ⟨hi19, h⟩ := gi_at h
        refine va_lald hx hb hK hP 3 1 rfl rfl hi19 dX10_sorts_93 ?_
        refine lv_l2i hx hb dX10_sorts_94 rfl ?_
        obtain ⟨rfl, rfl, rfl⟩ := pj3 h
        exact hEnd _ _ _ _ hP hS dX10_sorts_95 rfl
      have h := ite_f c18 h
      refine lv_iconst (v := (-1 : Int32)) hx hb dX10_sorts_20 (by decide) ?_
      refine lv_istore_n (lv' := [(3, .int (-1 : Int32)), (0, .ref h_this), (1, .int v1), (2, .int v2)]) hx hb dX10_sorts_21 rfl hl (by decide) rfl (fun ls hl => ?_)
      refine lv_iconst (v := (0 : Int32)) hx hb dX10_sorts_22 (by decide) ?_
      refine lv_istore (lv' := [(4, .int (0 : Int32)), (3, .int (-1 : Int32)), (0, .ref h_this), (1, .int v1), (2, .int v2)]) hx hb dX10_sorts_23 hl (by decide) rfl (fun ls hl => ?_)
      exact LP_25 N _ _ _ _ _ _ _ _ _ h (lv_sub hl [2, 3, 4, 1, 0] rfl) hP hD hS
  have h := hf
  unfold fX10_sorts at h
  refine lv_aload_n hx hb dX10_sorts_0 rfl (lv_at hl 0 rfl) ?_
  refine lv_iconst (v := (0 : Int32)) hx hb dX10_sorts_1 (by decide) ?_
  refine va_put (D := (dC, dI)) (ci := 9) (v := .int (0 : Int32)) (ty := .int) (C := RX10) (T := TX10) (N := 29) hx hb hts inX10 tyX10 tyX10_ok nmX10 hown hK hP hD hS 0 rfl rfl 9 (by decide) (hts _ (kq q_995 rfl)) (fun _ h9 => h9) rfl (by decide +kernel) rfl rfl (Nat.le_of_ble_eq_true rfl) dX10_sorts_2 (fun H locs hP hD hS => ?_)
  have hP : va_P (dC, dI) vwCl [(h_this, .inr (9, [.ref h_this_dayAt, .ref h_this_secondAt, .ref h_this_spans, .ref h_this_kept, .int (i_this 4), .ref h_this_text, .int (i_this 6), .ref h_this_row, .int (i_this 8), .int (0 : Int32), .int (i_this 10), .int (i_this 11), .int (i_this 12), .int (i_this 13), .int (i_this 14), .int (i_this 15), .int (i_this 16), .int (i_this 17), .int (i_this 18), .ref h_this_read, .long (j_this 20), .ref h_this_many, .ref h_this_first, .ref h_this_lengths, .int (i_this 24), .long (j_this 25), .long (j_this 26), .ref h_this_page, .int (i_this 28)])), (h_this_dayAt, .inl (cI, 8, .inl f_this_dayAt)), (h_this_secondAt, .inl (cI, 8, .inl f_this_secondAt)), (h_this_row, .inl (cJ, 16, .inr (.inl f_this_row)))] H := hP
  have hD : va_D A [(h_this, .inr (9, [.ref h_this_dayAt, .ref h_this_secondAt, .ref h_this_spans, .ref h_this_kept, .int (i_this 4), .ref h_this_text, .int (i_this 6), .ref h_this_row, .int (i_this 8), .int (0 : Int32), .int (i_this 10), .int (i_this 11), .int (i_this 12), .int (i_this 13), .int (i_this 14), .int (i_this 15), .int (i_this 16), .int (i_this 17), .int (i_this 18), .ref h_this_read, .long (j_this 20), .ref h_this_many, .ref h_this_first, .ref h_this_lengths, .int (i_this 24), .long (j_this 25), .long (j_this 26), .ref h_this_page, .int (i_this 28)])), (h_this_dayAt, .inl (cI, 8, .inl f_this_dayAt)), (h_this_secondAt, .inl (cI, 8, .inl f_this_secondAt)), (h_this_row, .inl (cJ, 16, .inr (.inl f_this_row)))] := hD
  refine lv_aload_n hx hb dX10_sorts_5 rfl (lv_at hl 0 rfl) ?_
  refine lv_iconst (v := (0 : Int32)) hx hb dX10_sorts_6 (by decide) ?_
  refine va_put (D := (dC, dI)) (ci := 9) (v := .int (0 : Int32)) (ty := .int) (C := RX10) (T := TX10) (N := 29) hx hb hts inX10 tyX10 tyX10_ok nmX10 hown hK hP hD hS 0 rfl rfl 8 (by decide) (hts _ (kq q_994 rfl)) (fun _ h9 => h9) rfl (by decide +kernel) rfl rfl (Nat.le_of_ble_eq_true rfl) dX10_sorts_7 (fun H locs hP hD hS => ?_)
  have hP : va_P (dC, dI) vwCl [(h_this, .inr (9, [.ref h_this_dayAt, .ref h_this_secondAt, .ref h_this_spans, .ref h_this_kept, .int (i_this 4), .ref h_this_text, .int (i_this 6), .ref h_this_row, .int (0 : Int32), .int (0 : Int32), .int (i_this 10), .int (i_this 11), .int (i_this 12), .int (i_this 13), .int (i_this 14), .int (i_this 15), .int (i_this 16), .int (i_this 17), .int (i_this 18), .ref h_this_read, .long (j_this 20), .ref h_this_many, .ref h_this_first, .ref h_this_lengths, .int (i_this 24), .long (j_this 25), .long (j_this 26), .ref h_this_page, .int (i_this 28)])), (h_this_dayAt, .inl (cI, 8, .inl f_this_dayAt)), (h_this_secondAt, .inl (cI, 8, .inl f_this_secondAt)), (h_this_row, .inl (cJ, 16, .inr (.inl f_this_row)))] H := hP
  have hD : va_D A [(h_this, .inr (9, [.ref h_this_dayAt, .ref h_this_secondAt, .ref h_this_spans, .ref h_this_kept, .int (i_this 4), .ref h_this_text, .int (i_this 6), .ref h_this_row, .int (0 : Int32), .int (0 : Int32), .int (i_this 10), .int (i_this 11), .int (i_this 12), .int (i_this 13), .int (i_this 14), .int (i_this 15), .int (i_this 16), .int (i_this 17), .int (i_this 18), .ref h_this_read, .long (j_this 20), .ref h_this_many, .ref h_this_first, .ref h_this_lengths, .int (i_this 24), .long (j_this 25), .long (j_this 26), .ref h_this_page, .int (i_this 28)])), (h_this_dayAt, .inl (cI, 8, .inl f_this_dayAt)), (h_this_secondAt, .inl (cI, 8, .inl f_this_secondAt)), (h_this_row, .inl (cJ, 16, .inr (.inl f_this_row)))] := hD
  refine lv_iconst (v := (0 : Int32)) hx hb dX10_sorts_10 (by decide) ?_
  refine lv_istore_n (lv' := [(1, .int (0 : Int32)), (0, .ref h_this)]) hx hb dX10_sorts_11 rfl hl (by decide) rfl (fun ls hl => ?_)
  refine lv_iconst (v := (0 : Int32)) hx hb dX10_sorts_12 (by decide) ?_
  refine lv_istore_n (lv' := [(2, .int (0 : Int32)), (1, .int (0 : Int32)), (0, .ref h_this)]) hx hb dX10_sorts_13 rfl hl (by decide) rfl (fun ls hl => ?_)
  have hP : va_P (dC, dI) vwCl [cl_X10 h_this h_this_dayAt h_this_secondAt h_this_spans h_this_kept h_this_text h_this_row h_this_read h_this_many h_this_first h_this_lengths h_this_page (upd (upd i_this 8 (0 : Int32)) 9 (0 : Int32)) j_this, (h_this_dayAt, .inl (cI, 8, .inl f_this_dayAt)), (h_this_secondAt, .inl (cI, 8, .inl f_this_secondAt)), (h_this_row, .inl (cJ, 16, .inr (.inl f_this_row)))] H := hP
  have hD : va_D A [cl_X10 h_this h_this_dayAt h_this_secondAt h_this_spans h_this_kept h_this_text h_this_row h_this_read h_this_many h_this_first h_this_lengths h_this_page (upd (upd i_this 8 (0 : Int32)) 9 (0 : Int32)) j_this, (h_this_dayAt, .inl (cI, 8, .inl f_this_dayAt)), (h_this_secondAt, .inl (cI, 8, .inl f_this_secondAt)), (h_this_row, .inl (cJ, 16, .inr (.inl f_this_row)))] := hD
  exact LP_14 N _ _ _ _ _ _ _ h (lv_sub hl [2, 1, 0] rfl) hP hD hS
noncomputable def fX10_lengthOf (N : Nat) (p1 : Int32) (i_this : Nat → Int32) (j_this : Nat → Int64) (f_this_spans : Nat → Int32) : Option (UInt64) := (gi ((3 : Int32) * p1) 24 (g64 (FP.dmul (4702901747880820736 : UInt64) (FP.i2d (f_this_spans ((3 : Int32) * p1).toNatClampNeg))) (gi (((3 : Int32) * p1) + (1 : Int32)) 24 (g64 (FP.dmul (4680673776000565248 : UInt64) (FP.i2d (f_this_spans (((3 : Int32) * p1) + (1 : Int32)).toNatClampNeg))) (g64 (FP.dadd (FP.dmul (4702901747880820736 : UInt64) (FP.i2d (f_this_spans ((3 : Int32) * p1).toNatClampNeg))) (FP.dmul (4680673776000565248 : UInt64) (FP.i2d (f_this_spans (((3 : Int32) * p1) + (1 : Int32)).toNatClampNeg)))) (gi (((3 : Int32) * p1) + (2 : Int32)) 24 (g64 (FP.dadd (FP.dadd (FP.dmul (4702901747880820736 : UInt64) (FP.i2d (f_this_spans ((3 : Int32) * p1).toNatClampNeg))) (FP.dmul (4680673776000565248 : UInt64) (FP.i2d (f_this_spans (((3 : Int32) * p1) + (1 : Int32)).toNatClampNeg)))) (FP.i2d (f_this_spans (((3 : Int32) * p1) + (2 : Int32)).toNatClampNeg))) (some (FP.dadd (FP.dadd (FP.dmul (4702901747880820736 : UInt64) (FP.i2d (f_this_spans ((3 : Int32) * p1).toNatClampNeg))) (FP.dmul (4680673776000565248 : UInt64) (FP.i2d (f_this_spans (((3 : Int32) * p1) + (1 : Int32)).toNatClampNeg)))) (FP.i2d (f_this_spans (((3 : Int32) * p1) + (2 : Int32)).toNatClampNeg)))))))))))
set_option maxHeartbeats 4000000 in
set_option maxRecDepth 100000 in
theorem kX10_lengthOf (l : Launch) (dC : Nat → ClassId) (dI : Nat → Nat → Nat) (cI cJ cB : ClassId) (h_this h_this_dayAt h_this_secondAt h_this_spans h_this_kept h_this_text h_this_row h_this_read h_this_many h_this_first h_this_lengths h_this_page : Nat) (N : Nat) (p1 : Int32) (i_this : Nat → Int32) (j_this : Nat → Int64) (f_this_spans : Nat → Int32) (r : UInt64) (hf : fX10_lengthOf N p1 i_this j_this f_this_spans = some r) : MD l yX10_lengthOf (kws yX10_lengthOf cX10_lengthOf 2 (some .double)) (kR 0 0) (dC, dI) (kT cI cJ cB) [.ref h_this, .int p1] [cl_X10 h_this h_this_dayAt h_this_secondAt h_this_spans h_this_kept h_this_text h_this_row h_this_read h_this_many h_this_first h_this_lengths h_this_page i_this j_this, (h_this_spans, .inl (cI, 24, .inl f_this_spans))] [cl_X10 h_this h_this_dayAt h_this_secondAt h_this_spans h_this_kept h_this_text h_this_row h_this_read h_this_many h_this_first h_this_lengths h_this_page i_this j_this, (h_this_spans, .inl (cI, 24, .inl f_this_spans))] r := by
  refine MD.of (cc := cX10_lengthOf) (maxL := 2) (by decide) (Nat.le_of_ble_eq_true rfl) (fun p e s m args below meth c A Q ls KC hN hK hP hD hA hl hEnd => ?_)
  obtain ⟨hx, hb, hml, hown, hts⟩ := KC
  have hown : s.vm.findClass "DateSpansModel" = some m.cls := hown
  have hl : lv_has ls 2 [(0, .ref h_this), (1, .int p1)] := hl
  have hS : va_S A s.heap s.heap [] := va_S.rf
  have h := hf
  unfold fX10_lengthOf at h
  refine lv_ldc2d (v := (4702901747880820736 : UInt64)) hx hb hown (hts _ (kq q_1458 rfl)) dX10_lengthOf_0 ?_
  refine lv_aload_n hx hb dX10_lengthOf_3 rfl (lv_at hl 0 rfl) ?_
  refine va_get (D := (dC, dI)) (ci := 9) (v := .ref h_this_spans) (C := RX10) (T := TX10) (N := 29) hx hb hts inX10 hown hK hP 0 rfl rfl 2 (by decide) (hts _ (kq q_988 rfl)) (fun _ h9 => h9) rfl dX10_lengthOf_4 ?_
  refine lv_iconst (v := (3 : Int32)) hx hb dX10_lengthOf_7 (by decide) ?_
  refine lv_iload_n hx hb dX10_lengthOf_8 rfl (lv_at hl 1 rfl) ?_
  refine lv_imul hx hb dX10_lengthOf_9 ?_
  obtain ⟨hi1, h⟩ := gi_at h
  refine va_iald hx hb hK hP 1 0 rfl rfl hi1 dX10_lengthOf_10 ?_
  refine lv_i2d hx hb dX10_lengthOf_11 ?_
  obtain ⟨hn2, h⟩ := g64_at h
  refine lv_dmul hx hb dX10_lengthOf_12 hn2 ?_
  refine lv_ldc2d (v := (4680673776000565248 : UInt64)) hx hb hown (hts _ (kq q_1459 rfl)) dX10_lengthOf_13 ?_
  refine lv_aload_n hx hb dX10_lengthOf_16 rfl (lv_at hl 0 rfl) ?_
  refine va_get (D := (dC, dI)) (ci := 9) (v := .ref h_this_spans) (C := RX10) (T := TX10) (N := 29) hx hb hts inX10 hown hK hP 0 rfl rfl 2 (by decide) (hts _ (kq q_988 rfl)) (fun _ h9 => h9) rfl dX10_lengthOf_17 ?_
  refine lv_iconst (v := (3 : Int32)) hx hb dX10_lengthOf_20 (by decide) ?_
  refine lv_iload_n hx hb dX10_lengthOf_21 rfl (lv_at hl 1 rfl) ?_
  refine lv_imul hx hb dX10_lengthOf_22 ?_
  refine lv_iconst (v := (1 : Int32)) hx hb dX10_lengthOf_23 (by decide) ?_
  refine lv_iadd hx hb dX10_lengthOf_24 ?_
  obtain ⟨hi3, h⟩ := gi_at h
  refine va_iald hx hb hK hP 1 0 rfl rfl hi3 dX10_lengthOf_25 ?_
  refine lv_i2d hx hb dX10_lengthOf_26 ?_
  obtain ⟨hn4, h⟩ := g64_at h
  refine lv_dmul hx hb dX10_lengthOf_27 hn4 ?_
  obtain ⟨hn5, h⟩ := g64_at h
  refine lv_dadd hx hb dX10_lengthOf_28 hn5 ?_
  refine lv_aload_n hx hb dX10_lengthOf_29 rfl (lv_at hl 0 rfl) ?_
  refine va_get (D := (dC, dI)) (ci := 9) (v := .ref h_this_spans) (C := RX10) (T := TX10) (N := 29) hx hb hts inX10 hown hK hP 0 rfl rfl 2 (by decide) (hts _ (kq q_988 rfl)) (fun _ h9 => h9) rfl dX10_lengthOf_30 ?_
  refine lv_iconst (v := (3 : Int32)) hx hb dX10_lengthOf_33 (by decide) ?_
  refine lv_iload_n hx hb dX10_lengthOf_34 rfl (lv_at hl 1 rfl) ?_
  refine lv_imul hx hb dX10_lengthOf_35 ?_
  refine lv_iconst (v := (2 : Int32)) hx hb dX10_lengthOf_36 (by decide) ?_
  refine lv_iadd hx hb dX10_lengthOf_37 ?_
  obtain ⟨hi6, h⟩ := gi_at h
  refine va_iald hx hb hK hP 1 0 rfl rfl hi6 dX10_lengthOf_38 ?_
  refine lv_i2d hx hb dX10_lengthOf_39 ?_
  obtain ⟨hn7, h⟩ := g64_at h
  refine lv_dadd hx hb dX10_lengthOf_40 hn7 ?_
  obtain rfl := pj1 h
  exact hEnd _ _ _ _ hP hS dX10_lengthOf_41
noncomputable def fX10_ranks_l25 (N : Nat) (j_this : Nat → Int64) (f_this_spans : Nat → Int32) (K_14 : Int32 → Int32 → (Nat → Int32) → (Nat → Int64) → Option (Int32 × (Nat → Int32) × (Nat → Int64))) (n : Nat) : Int32 → Int32 → Int32 → Int32 → (Nat → Int32) → (Nat → Int64) → Option (Int32 × (Nat → Int32) × (Nat → Int64)) := Nat.rec (motive := fun _ => Int32 → Int32 → Int32 → Int32 → (Nat → Int32) → (Nat → Int64) → Option (Int32 × (Nat → Int32) × (Nat → Int64))) (fun _ _ _ _ _ _ => none) (fun _ K_25 v1 v2 v3 v4 i_this f_this_row => (if (8 : Int32) ≤ v4 then (nm (v1 ||| ((1 : Int32) <<< (v3 &&& 31))) fun z2 => (bd2 (fX10_tell N v3.toInt64 i_this j_this f_this_row) fun i_this_3 f_this_row_4 => (nm (v2 + (1 : Int32)) fun z6 => (K_14 z2 z6 i_this_3 f_this_row_4)))) else (if ((v1 >>> (v4 &&& 31)) &&& (1 : Int32)) = (0 : Int32) then (if v3 = (-1 : Int32) then (nm (v4 + (1 : Int32)) fun z10 => (K_25 v1 v2 v4 z10 i_this f_this_row)) else (bd1 (fX10_lengthOf N v4 i_this j_this f_this_spans) fun r11 => (bd1 (fX10_lengthOf N v3 i_this j_this f_this_spans) fun r13 => (if (0 : Int32) ≤ (Op.cmpValue (FP.dcmp r11 r13) .g) then (nm (v4 + (1 : Int32)) fun z16 => (K_25 v1 v2 v3 z16 i_this f_this_row)) else (nm (v4 + (1 : Int32)) fun z17 => (K_25 v1 v2 v4 z17 i_this f_this_row)))))) else (nm (v4 + (1 : Int32)) fun z8 => (K_25 v1 v2 v3 z8 i_this f_this_row))))) n
theorem fX10_ranks_l25_s (N : Nat) (j_this : Nat → Int64) (f_this_spans : Nat → Int32) (K_14 : Int32 → Int32 → (Nat → Int32) → (Nat → Int64) → Option (Int32 × (Nat → Int32) × (Nat → Int64))) (n : Nat) (v1 : Int32) (v2 : Int32) (v3 : Int32) (v4 : Int32) (i_this : Nat → Int32) (f_this_row : Nat → Int64) : fX10_ranks_l25 N j_this f_this_spans K_14 (n + 1) v1 v2 v3 v4 i_this f_this_row = (if (8 : Int32) ≤ v4 then (nm (v1 ||| ((1 : Int32) <<< (v3 &&& 31))) fun z2 => (bd2 (fX10_tell N v3.toInt64 i_this j_this f_this_row) fun i_this_3 f_this_row_4 => (nm (v2 + (1 : Int32)) fun z6 => (K_14 z2 z6 i_this_3 f_this_row_4)))) else (if ((v1 >>> (v4 &&& 31)) &&& (1 : Int32)) = (0 : Int32) then (if v3 = (-1 : Int32) then (nm (v4 + (1 : Int32)) fun z10 => ((fX10_ranks_l25 N j_this f_this_spans K_14 n) v1 v2 v4 z10 i_this f_this_row)) else (bd1 (fX10_lengthOf N v4 i_this j_this f_this_spans) fun r11 => (bd1 (fX10_lengthOf N v3 i_this j_this f_this_spans) fun r13 => (if (0 : Int32) ≤ (Op.cmpValue (FP.dcmp r11 r13) .g) then (nm (v4 + (1 : Int32)) fun z16 => ((fX10_ranks_l25 N j_this f_this_spans K_14 n) v1 v2 v3 z16 i_this f_this_row)) else (nm (v4 + (1 : Int32)) fun z17 => ((fX10_ranks_l25 N j_this f_this_spans K_14 n) v1 v2 v4 z17 i_this f_this_row)))))) else (nm (v4 + (1 : Int32)) fun z8 => ((fX10_ranks_l25 N j_this f_this_spans K_14 n) v1 v2 v3 z8 i_this f_this_row)))) := rfl
theorem fX10_ranks_l25_0 (N : Nat) (j_this : Nat → Int64) (f_this_spans : Nat → Int32) (K_14 : Int32 → Int32 → (Nat → Int32) → (Nat → Int64) → Option (Int32 × (Nat → Int32) × (Nat → Int64))) (v1 : Int32) (v2 : Int32) (v3 : Int32) (v4 : Int32) (i_this : Nat → Int32) (f_this_row : Nat → Int64) : fX10_ranks_l25 N j_this f_this_spans K_14 0 v1 v2 v3 v4 i_this f_this_row = none := rfl
noncomputable def fX10_ranks_l14 (N : Nat) (j_this : Nat → Int64) (f_this_spans : Nat → Int32) (n : Nat) : Int32 → Int32 → (Nat → Int32) → (Nat → Int64) → Option (Int32 × (Nat → Int32) × (Nat → Int64)) := Nat.rec (motive := fun _ => Int32 → Int32 → (Nat → Int32) → (Nat → Int64) → Option (Int32 × (Nat → Int32) × (Nat → Int64))) (fun _ _ _ _ => none) (fun _ K_14 v1 v2 i_this f_this_row => (if (8 : Int32) ≤ v2 then (gi (0 : Int32) 16 (some ((f_this_row (0 : Int32).toNatClampNeg).toInt32, i_this, f_this_row))) else (fX10_ranks_l25 N j_this f_this_spans K_14 N v1 v2 (-1 : Int32) (0 : Int32) i_this f_this_row))) n
theorem fX10_ranks_l14_s (N : Nat) (j_this : Nat → Int64) (f_this_spans : Nat → Int32) (n : Nat) (v1 : Int32) (v2 : Int32) (i_this : Nat → Int32) (f_this_row : Nat → Int64) : fX10_ranks_l14 N j_this f_this_spans (n + 1) v1 v2 i_this f_this_row = (if (8 : Int32) ≤ v2 then (gi (0 : Int32) 16 (some ((f_this_row (0 : Int32).toNatClampNeg).toInt32, i_this, f_this_row))) else (fX10_ranks_l25 N j_this f_this_spans (fX10_ranks_l14 N j_this f_this_spans n) N v1 v2 (-1 : Int32) (0 : Int32) i_this f_this_row)) := rfl
theorem fX10_ranks_l14_0 (N : Nat) (j_this : Nat → Int64) (f_this_spans : Nat → Int32) (v1 : Int32) (v2 : Int32) (i_this : Nat → Int32) (f_this_row : Nat → Int64) : fX10_ranks_l14 N j_this f_this_spans 0 v1 v2 i_this f_this_row = none := rfl
noncomputable def fX10_ranks (N : Nat) (i_this : Nat → Int32) (j_this : Nat → Int64) (f_this_spans : Nat → Int32) (f_this_row : Nat → Int64) : Option (Int32 × (Nat → Int32) × (Nat → Int64)) := (fX10_ranks_l14 N j_this f_this_spans N (0 : Int32) (0 : Int32) (upd (upd i_this 8 (0 : Int32)) 9 (0 : Int32)) f_this_row)
set_option maxHeartbeats 4000000 in
set_option maxRecDepth 100000 in
theorem kX10_ranks (l : Launch) (dC : Nat → ClassId) (dI : Nat → Nat → Nat) (cI cJ cB : ClassId) (h_this h_this_dayAt h_this_secondAt h_this_spans h_this_kept h_this_text h_this_row h_this_read h_this_many h_this_first h_this_lengths h_this_page : Nat) (N : Nat) (i_this : Nat → Int32) (j_this : Nat → Int64) (f_this_spans : Nat → Int32) (f_this_row : Nat → Int64) (r : Int32) (o_i_this : Nat → Int32) (o_f_this_row : Nat → Int64) (hf : fX10_ranks N i_this j_this f_this_spans f_this_row = some (r, o_i_this, o_f_this_row)) : MI l yX10_ranks (kws yX10_ranks cX10_ranks 5 (some .int)) (kR 1 22) (dC, dI) (kT cI cJ cB) [.ref h_this] [cl_X10 h_this h_this_dayAt h_this_secondAt h_this_spans h_this_kept h_this_text h_this_row h_this_read h_this_many h_this_first h_this_lengths h_this_page i_this j_this, (h_this_spans, .inl (cI, 24, .inl f_this_spans)), (h_this_row, .inl (cJ, 16, .inr (.inl f_this_row)))] [cl_X10 h_this h_this_dayAt h_this_secondAt h_this_spans h_this_kept h_this_text h_this_row h_this_read h_this_many h_this_first h_this_lengths h_this_page o_i_this j_this, (h_this_spans, .inl (cI, 24, .inl f_this_spans)), (h_this_row, .inl (cJ, 16, .inr (.inl o_f_this_row)))] r := by
  refine MI.of (cc := cX10_ranks) (maxL := 5) (by decide) (Nat.le_of_ble_eq_true rfl) (fun p e s m args below meth c A Q ls KC hN hK hP hD hA hl hEnd => ?_)
  obtain ⟨hx, hb, hml, hown, hts⟩ := KC
  have hown : s.vm.findClass "DateSpansModel" = some m.cls := hown
  have hl : lv_has ls 5 [(0, .ref h_this)] := hl
  have hS : va_S A s.heap s.heap [] := va_S.rf
  have LP_14 : ∀ n_14 : Nat, ∀ (v1 : Int32) (v2 : Int32) (i_this : Nat → Int32) (f_this_row : Nat → Int64) (ls : Array Slot) (H : Heap) (locs : List Loc), fX10_ranks_l14 N j_this f_this_spans n_14 v1 v2 i_this f_this_row = some (r, o_i_this, o_f_this_row) → lv_has ls 5 [(0, .ref h_this), (1, .int v1), (2, .int v2)] → va_P (dC, dI) vwCl [cl_X10 h_this h_this_dayAt h_this_secondAt h_this_spans h_this_kept h_this_text h_this_row h_this_read h_this_many h_this_first h_this_lengths h_this_page i_this j_this, (h_this_spans, .inl (cI, 24, .inl f_this_spans)), (h_this_row, .inl (cJ, 16, .inr (.inl f_this_row)))] H → va_D A [cl_X10 h_this h_this_dayAt h_this_secondAt h_this_spans h_this_kept h_this_text h_this_row h_this_read h_this_many h_this_first h_this_lengths h_this_page i_this j_this, (h_this_spans, .inl (cI, 24, .inl f_this_spans)), (h_this_row, .inl (cJ, 16, .inr (.inl f_this_row)))] → va_S A s.heap H locs → W p l e (kR 1 22) s m args below meth c H locs 0 0 Q (F0 m 14 ls []) := by
    intro n_14
    induction n_14 with
    | zero =>
      intro v1 v2 i_this f_this_row ls H locs h hl hP hD hS
      rw [fX10_ranks_l14_0] at h; cases h
    | succ n_14 ih_14 =>
      have LP_25 : ∀ n_25 : Nat, ∀ (v1 : Int32) (v2 : Int32) (v3 : Int32) (v4 : Int32) (i_this : Nat → Int32) (f_this_row : Nat → Int64) (ls : Array Slot) (H : Heap) (locs : List Loc), fX10_ranks_l25 N j_this f_this_spans (fX10_ranks_l14 N j_this f_this_spans n_14) n_25 v1 v2 v3 v4 i_this f_this_row = some (r, o_i_this, o_f_this_row) → lv_has ls 5 [(0, .ref h_this), (1, .int v1), (2, .int v2), (3, .int v3), (4, .int v4)] → va_P (dC, dI) vwCl [cl_X10 h_this h_this_dayAt h_this_secondAt h_this_spans h_this_kept h_this_text h_this_row h_this_read h_this_many h_this_first h_this_lengths h_this_page i_this j_this, (h_this_spans, .inl (cI, 24, .inl f_this_spans)), (h_this_row, .inl (cJ, 16, .inr (.inl f_this_row)))] H → va_D A [cl_X10 h_this h_this_dayAt h_this_secondAt h_this_spans h_this_kept h_this_text h_this_row h_this_read h_this_many h_this_first h_this_lengths h_this_page i_this j_this, (h_this_spans, .inl (cI, 24, .inl f_this_spans)), (h_this_row, .inl (cJ, 16, .inr (.inl f_this_row)))] → va_S A s.heap H locs → W p l e (kR 1 22) s m args below meth c H locs 0 0 Q (F0 m 25 ls []) := by
        intro n_25
        induction n_25 with
        | zero =>
          intro v1 v2 v3 v4 i_this f_this_row ls H locs h hl hP hD hS
          rw [fX10_ranks_l25_0] at h; cases h
        | succ n_25 ih_25 =>
          intro v1 v2 v3 v4 i_this f_this_row ls H locs h hl hP hD hS
          rw [fX10_ranks_l25_s] at h
          refine lv_iload hx hb dX10_ranks_25 (lv_at hl 4 rfl) ?_
          refine lv_bipush (v := (8 : Int32)) hx hb dX10_ranks_27 (by decide) ?_
          refine lv_icmp_ge (tgt := 70) hx hb dX10_ranks_29 (by decide) (fun c1 => ?_) (fun c1 => ?_)
          · have h := ite_t c1 h
            refine lv_iload_n hx hb dX10_ranks_70 rfl (lv_at hl 1 rfl) ?_
            refine lv_iconst (v := (1 : Int32)) hx hb dX10_ranks_71 (by decide) ?_
            refine lv_iload_n hx hb dX10_ranks_72 rfl (lv_at hl 3 rfl) ?_
            refine lv_ishl hx hb dX10_ranks_73 ?_
            refine lv_ior hx hb dX10_ranks_74 ?_
            refine lv_topi (fun z2 ez2 => ?_)
            have h := nm_at ez2 h
            refine lv_istore_n (lv' := [(1, .int z2), (0, .ref h_this), (2, .int v2), (3, .int v3), (4, .int v4)]) hx hb dX10_ranks_75 rfl hl (by decide) rfl (fun ls hl => ?_)
            refine lv_aload_n hx hb dX10_ranks_76 rfl (lv_at hl 1 rfl) ?_
            refine lv_iload_n hx hb dX10_ranks_77 rfl (lv_at hl 3 rfl) ?_
            refine lv_i2l hx hb dX10_ranks_78 rfl ?_
            obtain ⟨i_this_3, f_this_row_4, hc5, h⟩ := bd2_at h
            refine kjV (kV (own := "DateSpansModel") (C := "DateSpansModel") (b := h_this) (As := [.long v3.toInt64]) (rest := []) ⟨hx, hb, hml, hown, hts⟩ (kX10_tell l dC dI cI cJ cB h_this h_this_dayAt h_this_secondAt h_this_spans h_this_kept h_this_text h_this_row h_this_read h_this_many h_this_first h_this_lengths h_this_page N v3.toInt64 i_this j_this f_this_row i_this_3 f_this_row_4 hc5 _) (kgV (kq q_1221 rfl) (kq q_1223 rfl) (kq q_29 rfl) (kq q_66 rfl) (kq q_1224 rfl)) yd_X10_tell ⟨Nat.le_of_ble_eq_true rfl, Nat.le_of_ble_eq_true rfl⟩ hN hK hP hD [0, 2] rfl rfl (ci := 9) rfl rfl rfl rfl rfl hl.1 rfl (lv_room (Nat.le_of_ble_eq_true rfl)) dX10_ranks_79) hP hD hS hA [0, 2] rfl rfl (fun H locs hP hD hS => ?_)
            have hP : va_P (dC, dI) vwCl [cl_X10 h_this h_this_dayAt h_this_secondAt h_this_spans h_this_kept h_this_text h_this_row h_this_read h_this_many h_this_first h_this_lengths h_this_page i_this_3 j_this, (h_this_spans, .inl (cI, 24, .inl f_this_spans)), (h_this_row, .inl (cJ, 16, .inr (.inl f_this_row_4)))] H := hP
            have hD : va_D A [cl_X10 h_this h_this_dayAt h_this_secondAt h_this_spans h_this_kept h_this_text h_this_row h_this_read h_this_many h_this_first h_this_lengths h_this_page i_this_3 j_this, (h_this_spans, .inl (cI, 24, .inl f_this_spans)), (h_this_row, .inl (cJ, 16, .inr (.inl f_this_row_4)))] := hD
            obtain ⟨z6, ez6⟩ : ∃ y : Int32, y = (v2 + (1 : Int32)) := ⟨_, rfl⟩
            have h := nm_at ez6 h
            refine lv_iinc (v := z6) (lv' := [(2, .int z6), (1, .int z2), (0, .ref h_this), (3, .int v3), (4, .int v4)]) hx hb dX10_ranks_82 hl (k := 2) rfl (by rw [ez6]; rfl) (by decide) rfl (fun ls hl => ?_)
            refine lv_goto (tgt := 14) hx hb dX10_ranks_85 (by decide) ?_
            exact ih_14 _ _ _ _ _ _ _ h (lv_sub hl [2, 1, 0] rfl) hP hD hS
          have h := ite_f c1 h
          refine lv_iload_n hx hb dX10_ranks_32 rfl (lv_at hl 1 rfl) ?_
          refine lv_iload hx hb dX10_ranks_33 (lv_at hl 4 rfl) ?_
          refine lv_ishr hx hb dX10_ranks_35 ?_
          refine lv_iconst (v := (1 : Int32)) hx hb dX10_ranks_36 (by decide) ?_
          refine lv_iand hx hb dX10_ranks_37 ?_
          refine lv_if_ne (tgt := 64) hx hb dX10_ranks_38 (by decide) (fun c7 => ?_) (fun c7 => ?_)
          · have h := ite_f c7 h
            obtain ⟨z8, ez8⟩ : ∃ y : Int32, y = (v4 + (1 : Int32)) := ⟨_, rfl⟩
            have h := nm_at ez8 h
            refine lv_iinc (v := z8) (lv' := [(4, .int z8), (0, .ref h_this), (1, .int v1), (2, .int v2), (3, .int v3)]) hx hb dX10_ranks_64 hl (k := 4) rfl (by rw [ez8]; rfl) (by decide) rfl (fun ls hl => ?_)
            refine lv_goto (tgt := 25) hx hb dX10_ranks_67 (by decide) ?_
            exact ih_25 _ _ _ _ _ _ _ _ _ h (lv_sub hl [1, 2, 3, 4, 0] rfl) hP hD hS
          have h := ite_t c7 h
          refine lv_iload_n hx hb dX10_ranks_41 rfl (lv_at hl 3 rfl) ?_
          refine lv_iconst (v := (-1 : Int32)) hx hb dX10_ranks_42 (by decide) ?_
          refine lv_icmp_eq (tgt := 61) hx hb dX10_ranks_43 (by decide) (fun c9 => ?_) (fun c9 => ?_)
          · have h := ite_t c9 h
            refine lv_iload hx hb dX10_ranks_61 (lv_at hl 4 rfl) ?_
            refine lv_istore_n (lv' := [(3, .int v4), (0, .ref h_this), (1, .int v1), (2, .int v2), (4, .int v4)]) hx hb dX10_ranks_63 rfl hl (by decide) rfl (fun ls hl => ?_)
            obtain ⟨z10, ez10⟩ : ∃ y : Int32, y = (v4 + (1 : Int32)) := ⟨_, rfl⟩
            have h := nm_at ez10 h
            refine lv_iinc (v := z10) (lv' := [(4, .int z10), (3, .int v4), (0, .ref h_this), (1, .int v1), (2, .int v2)]) hx hb dX10_ranks_64 hl (k := 4) rfl (by rw [ez10]; rfl) (by decide) rfl (fun ls hl => ?_)
            refine lv_goto (tgt := 25) hx hb dX10_ranks_67 (by decide) ?_
            exact ih_25 _ _ _ _ _ _ _ _ _ h (lv_sub hl [2, 3, 4, 1, 0] rfl) hP hD hS
          have h := ite_f c9 h
          refine lv_aload_n hx hb dX10_ranks_46 rfl (lv_at hl 0 rfl) ?_
          refine lv_iload hx hb dX10_ranks_47 (lv_at hl 4 rfl) ?_
          obtain ⟨r11, hc12, h⟩ := bd1_at h
          refine kjD (kV (own := "DateSpansModel") (C := "DateSpansModel") (b := h_this) (As := [.int v4]) (rest := []) ⟨hx, hb, hml, hown, hts⟩ (kX10_lengthOf l dC dI cI cJ cB h_this h_this_dayAt h_this_secondAt h_this_spans h_this_kept h_this_text h_this_row h_this_read h_this_many h_this_first h_this_lengths h_this_page N v4 i_this j_this f_this_spans r11 hc12 _) (kgV (kq q_1454 rfl) (kq q_1456 rfl) (kq q_49 rfl) (kq q_66 rfl) (kq q_1457 rfl)) yd_X10_lengthOf ⟨Nat.le_of_ble_eq_true rfl, Nat.le_of_ble_eq_true rfl⟩ hN hK hP hD [0, 1] rfl rfl (ci := 9) rfl rfl rfl rfl rfl hl.1 rfl (lv_room (Nat.le_of_ble_eq_true rfl)) dX10_ranks_49) hP hD hS hA [0, 1] rfl rfl (fun H locs hP hD hS => ?_)
          have hP : va_P (dC, dI) vwCl [cl_X10 h_this h_this_dayAt h_this_secondAt h_this_spans h_this_kept h_this_text h_this_row h_this_read h_this_many h_this_first h_this_lengths h_this_page i_this j_this, (h_this_spans, .inl (cI, 24, .inl f_this_spans)), (h_this_row, .inl (cJ, 16, .inr (.inl f_this_row)))] H := hP
          have hD : va_D A [cl_X10 h_this h_this_dayAt h_this_secondAt h_this_spans h_this_kept h_this_text h_this_row h_this_read h_this_many h_this_first h_this_lengths h_this_page i_this j_this, (h_this_spans, .inl (cI, 24, .inl f_this_spans)), (h_this_row, .inl (cJ, 16, .inr (.inl f_this_row)))] := hD
          refine lv_aload_n hx hb dX10_ranks_52 rfl (lv_at hl 0 rfl) ?_
          refine lv_iload_n hx hb dX10_ranks_53 rfl (lv_at hl 3 rfl) ?_
          obtain ⟨r13, hc14, h⟩ := bd1_at h
          refine kjD (kV (own := "DateSpansModel") (C := "DateSpansModel") (b := h_this) (As := [.int v3]) (rest := [.double r11]) ⟨hx, hb, hml, hown, hts⟩ (kX10_lengthOf l dC dI cI cJ cB h_this h_this_dayAt h_this_secondAt h_this_spans h_this_kept h_this_text h_this_row h_this_read h_this_many h_this_first h_this_lengths h_this_page N v3 i_this j_this f_this_spans r13 hc14 _) (kgV (kq q_1454 rfl) (kq q_1456 rfl) (kq q_49 rfl) (kq q_66 rfl) (kq q_1457 rfl)) yd_X10_lengthOf ⟨Nat.le_of_ble_eq_true rfl, Nat.le_of_ble_eq_true rfl⟩ hN hK hP hD [0, 1] rfl rfl (ci := 9) rfl rfl rfl rfl rfl hl.1 rfl (lv_room (Nat.le_of_ble_eq_true rfl)) dX10_ranks_54) hP hD hS hA [0, 1] rfl rfl (fun H locs hP hD hS => ?_)
          have hP : va_P (dC, dI) vwCl [cl_X10 h_this h_this_dayAt h_this_secondAt h_this_spans h_this_kept h_this_text h_this_row h_this_read h_this_many h_this_first h_this_lengths h_this_page i_this j_this, (h_this_spans, .inl (cI, 24, .inl f_this_spans)), (h_this_row, .inl (cJ, 16, .inr (.inl f_this_row)))] H := hP
          have hD : va_D A [cl_X10 h_this h_this_dayAt h_this_secondAt h_this_spans h_this_kept h_this_text h_this_row h_this_read h_this_many h_this_first h_this_lengths h_this_page i_this j_this, (h_this_spans, .inl (cI, 24, .inl f_this_spans)), (h_this_row, .inl (cJ, 16, .inr (.inl f_this_row)))] := hD
          refine lv_dcmp hx hb dX10_ranks_57 ?_
          refine lv_if_ge (tgt := 64) hx hb dX10_ranks_58 (by decide) (fun c15 => ?_) (fun c15 => ?_)
          · have h := ite_t c15 h
            obtain ⟨z16, ez16⟩ : ∃ y : Int32, y = (v4 + (1 : Int32)) := ⟨_, rfl⟩
            have h := nm_at ez16 h
            refine lv_iinc (v := z16) (lv' := [(4, .int z16), (0, .ref h_this), (1, .int v1), (2, .int v2), (3, .int v3)]) hx hb dX10_ranks_64 hl (k := 4) rfl (by rw [ez16]; rfl) (by decide) rfl (fun ls hl => ?_)
            refine lv_goto (tgt := 25) hx hb dX10_ranks_67 (by decide) ?_
            exact ih_25 _ _ _ _ _ _ _ _ _ h (lv_sub hl [1, 2, 3, 4, 0] rfl) hP hD hS
          have h := ite_f c15 h
          refine lv_iload hx hb dX10_ranks_61 (lv_at hl 4 rfl) ?_
          refine lv_istore_n (lv' := [(3, .int v4), (0, .ref h_this), (1, .int v1), (2, .int v2), (4, .int v4)]) hx hb dX10_ranks_63 rfl hl (by decide) rfl (fun ls hl => ?_)
          obtain ⟨z17, ez17⟩ : ∃ y : Int32, y = (v4 + (1 : Int32)) := ⟨_, rfl⟩
          have h := nm_at ez17 h
          refine lv_iinc (v := z17) (lv' := [(4, .int z17), (3, .int v4), (0, .ref h_this), (1, .int v1), (2, .int v2)]) hx hb dX10_ranks_64 hl (k := 4) rfl (by rw [ez17]; rfl) (by decide) rfl (fun ls hl => ?_)
          refine lv_goto (tgt := 25) hx hb dX10_ranks_67 (by decide) ?_
          exact ih_25 _ _ _ _ _ _ _ _ _ h (lv_sub hl [2, 3, 4, 1, 0] rfl) hP hD hS
      intro v1 v2 i_this f_this_row ls H locs h hl hP hD hS
      rw [fX10_ranks_l14_s] at h
      refine lv_iload_n hx hb dX10_ranks_14 rfl (lv_at hl 2 rfl) ?_
      refine lv_bipush (v := (8 : Int32)) hx hb dX10_ranks_15 (by decide) ?_
      refine lv_icmp_ge (tgt := 88) hx hb dX10_ranks_17 (by decide) (fun c18 => ?_) (fun c18 => ?_)
      · have h := ite_t c18 h
        refine lv_aload_n hx hb dX10_ranks_88 rfl (lv_at hl 0 rfl) ?_
        refine va_get (D := (dC, dI)) (ci := 9) (v := .ref h_this_row) (C := RX10) (T := TX10) (N := 29) hx hb hts inX10 hown hK hP 0 rfl rfl 7 (by decide) (hts _ (kq q_993 rfl)) (fun _ h9 => h9) rfl dX10_ranks_89 ?_
        refine lv_iconst (v := (0 : Int32)) hx hb dX10_ranks_92 (by decide) ?_
        obtain ⟨hi19, h⟩ := gi_at h
        refine va_lald hx hb hK hP 2 1 rfl rfl hi19 dX10_ranks_93 ?_
        refine lv_l2i hx hb dX10_ranks_94 rfl ?_
        obtain ⟨rfl, rfl, rfl⟩ := pj3 h
        exact hEnd _ _ _ _ hP hS dX10_ranks_95 rfl
      have h := ite_f c18 h
      refine lv_iconst (v := (-1 : Int32)) hx hb dX10_ranks_20 (by decide) ?_
      refine lv_istore_n (lv' := [(3, .int (-1 : Int32)), (0, .ref h_this), (1, .int v1), (2, .int v2)]) hx hb dX10_ranks_21 rfl hl (by decide) rfl (fun ls hl => ?_)
      refine lv_iconst (v := (0 : Int32)) hx hb dX10_ranks_22 (by decide) ?_
      refine lv_istore (lv' := [(4, .int (0 : Int32)), (3, .int (-1 : Int32)), (0, .ref h_this), (1, .int v1), (2, .int v2)]) hx hb dX10_ranks_23 hl (by decide) rfl (fun ls hl => ?_)
      exact LP_25 N _ _ _ _ _ _ _ _ _ h (lv_sub hl [2, 3, 4, 1, 0] rfl) hP hD hS
  have h := hf
  unfold fX10_ranks at h
  refine lv_aload_n hx hb dX10_ranks_0 rfl (lv_at hl 0 rfl) ?_
  refine lv_iconst (v := (0 : Int32)) hx hb dX10_ranks_1 (by decide) ?_
  refine va_put (D := (dC, dI)) (ci := 9) (v := .int (0 : Int32)) (ty := .int) (C := RX10) (T := TX10) (N := 29) hx hb hts inX10 tyX10 tyX10_ok nmX10 hown hK hP hD hS 0 rfl rfl 9 (by decide) (hts _ (kq q_995 rfl)) (fun _ h9 => h9) rfl (by decide +kernel) rfl rfl (Nat.le_of_ble_eq_true rfl) dX10_ranks_2 (fun H locs hP hD hS => ?_)
  have hP : va_P (dC, dI) vwCl [(h_this, .inr (9, [.ref h_this_dayAt, .ref h_this_secondAt, .ref h_this_spans, .ref h_this_kept, .int (i_this 4), .ref h_this_text, .int (i_this 6), .ref h_this_row, .int (i_this 8), .int (0 : Int32), .int (i_this 10), .int (i_this 11), .int (i_this 12), .int (i_this 13), .int (i_this 14), .int (i_this 15), .int (i_this 16), .int (i_this 17), .int (i_this 18), .ref h_this_read, .long (j_this 20), .ref h_this_many, .ref h_this_first, .ref h_this_lengths, .int (i_this 24), .long (j_this 25), .long (j_this 26), .ref h_this_page, .int (i_this 28)])), (h_this_spans, .inl (cI, 24, .inl f_this_spans)), (h_this_row, .inl (cJ, 16, .inr (.inl f_this_row)))] H := hP
  have hD : va_D A [(h_this, .inr (9, [.ref h_this_dayAt, .ref h_this_secondAt, .ref h_this_spans, .ref h_this_kept, .int (i_this 4), .ref h_this_text, .int (i_this 6), .ref h_this_row, .int (i_this 8), .int (0 : Int32), .int (i_this 10), .int (i_this 11), .int (i_this 12), .int (i_this 13), .int (i_this 14), .int (i_this 15), .int (i_this 16), .int (i_this 17), .int (i_this 18), .ref h_this_read, .long (j_this 20), .ref h_this_many, .ref h_this_first, .ref h_this_lengths, .int (i_this 24), .long (j_this 25), .long (j_this 26), .ref h_this_page, .int (i_this 28)])), (h_this_spans, .inl (cI, 24, .inl f_this_spans)), (h_this_row, .inl (cJ, 16, .inr (.inl f_this_row)))] := hD
  refine lv_aload_n hx hb dX10_ranks_5 rfl (lv_at hl 0 rfl) ?_
  refine lv_iconst (v := (0 : Int32)) hx hb dX10_ranks_6 (by decide) ?_
  refine va_put (D := (dC, dI)) (ci := 9) (v := .int (0 : Int32)) (ty := .int) (C := RX10) (T := TX10) (N := 29) hx hb hts inX10 tyX10 tyX10_ok nmX10 hown hK hP hD hS 0 rfl rfl 8 (by decide) (hts _ (kq q_994 rfl)) (fun _ h9 => h9) rfl (by decide +kernel) rfl rfl (Nat.le_of_ble_eq_true rfl) dX10_ranks_7 (fun H locs hP hD hS => ?_)
  have hP : va_P (dC, dI) vwCl [(h_this, .inr (9, [.ref h_this_dayAt, .ref h_this_secondAt, .ref h_this_spans, .ref h_this_kept, .int (i_this 4), .ref h_this_text, .int (i_this 6), .ref h_this_row, .int (0 : Int32), .int (0 : Int32), .int (i_this 10), .int (i_this 11), .int (i_this 12), .int (i_this 13), .int (i_this 14), .int (i_this 15), .int (i_this 16), .int (i_this 17), .int (i_this 18), .ref h_this_read, .long (j_this 20), .ref h_this_many, .ref h_this_first, .ref h_this_lengths, .int (i_this 24), .long (j_this 25), .long (j_this 26), .ref h_this_page, .int (i_this 28)])), (h_this_spans, .inl (cI, 24, .inl f_this_spans)), (h_this_row, .inl (cJ, 16, .inr (.inl f_this_row)))] H := hP
  have hD : va_D A [(h_this, .inr (9, [.ref h_this_dayAt, .ref h_this_secondAt, .ref h_this_spans, .ref h_this_kept, .int (i_this 4), .ref h_this_text, .int (i_this 6), .ref h_this_row, .int (0 : Int32), .int (0 : Int32), .int (i_this 10), .int (i_this 11), .int (i_this 12), .int (i_this 13), .int (i_this 14), .int (i_this 15), .int (i_this 16), .int (i_this 17), .int (i_this 18), .ref h_this_read, .long (j_this 20), .ref h_this_many, .ref h_this_first, .ref h_this_lengths, .int (i_this 24), .long (j_this 25), .long (j_this 26), .ref h_this_page, .int (i_this 28)])), (h_this_spans, .inl (cI, 24, .inl f_this_spans)), (h_this_row, .inl (cJ, 16, .inr (.inl f_this_row)))] := hD
  refine lv_iconst (v := (0 : Int32)) hx hb dX10_ranks_10 (by decide) ?_
  refine lv_istore_n (lv' := [(1, .int (0 : Int32)), (0, .ref h_this)]) hx hb dX10_ranks_11 rfl hl (by decide) rfl (fun ls hl => ?_)
  refine lv_iconst (v := (0 : Int32)) hx hb dX10_ranks_12 (by decide) ?_
  refine lv_istore_n (lv' := [(2, .int (0 : Int32)), (1, .int (0 : Int32)), (0, .ref h_this)]) hx hb dX10_ranks_13 rfl hl (by decide) rfl (fun ls hl => ?_)
  have hP : va_P (dC, dI) vwCl [cl_X10 h_this h_this_dayAt h_this_secondAt h_this_spans h_this_kept h_this_text h_this_row h_this_read h_this_many h_this_first h_this_lengths h_this_page (upd (upd i_this 8 (0 : Int32)) 9 (0 : Int32)) j_this, (h_this_spans, .inl (cI, 24, .inl f_this_spans)), (h_this_row, .inl (cJ, 16, .inr (.inl f_this_row)))] H := hP
  have hD : va_D A [cl_X10 h_this h_this_dayAt h_this_secondAt h_this_spans h_this_kept h_this_text h_this_row h_this_read h_this_many h_this_first h_this_lengths h_this_page (upd (upd i_this 8 (0 : Int32)) 9 (0 : Int32)) j_this, (h_this_spans, .inl (cI, 24, .inl f_this_spans)), (h_this_row, .inl (cJ, 16, .inr (.inl f_this_row)))] := hD
  exact LP_14 N _ _ _ _ _ _ _ h (lv_sub hl [2, 1, 0] rfl) hP hD hS
noncomputable def fX10_writes (N : Nat) (p1 : Int32) (i_this : Nat → Int32) (j_this : Nat → Int64) (f_this_page : Nat → Int32) : Option ((Nat → Int32) × (Nat → Int32)) := (gi (i_this 28) 128 (some ((upd i_this 28 ((i_this 28) + (1 : Int32))), (upd f_this_page (i_this 28).toNatClampNeg (vp_nar .byte p1.toInt8.toInt32)))))
set_option maxHeartbeats 4000000 in
set_option maxRecDepth 100000 in
theorem kX10_writes (l : Launch) (dC : Nat → ClassId) (dI : Nat → Nat → Nat) (cI cJ cB : ClassId) (h_this h_this_dayAt h_this_secondAt h_this_spans h_this_kept h_this_text h_this_row h_this_read h_this_many h_this_first h_this_lengths h_this_page : Nat) (N : Nat) (p1 : Int32) (i_this : Nat → Int32) (j_this : Nat → Int64) (f_this_page : Nat → Int32) (o_i_this : Nat → Int32) (o_f_this_page : Nat → Int32) (hf : fX10_writes N p1 i_this j_this f_this_page = some (o_i_this, o_f_this_page)) : MV l yX10_writes (kws yX10_writes cX10_writes 2 (none)) (kR 0 0) (dC, dI) (kT cI cJ cB) [.ref h_this, .int p1] [cl_X10 h_this h_this_dayAt h_this_secondAt h_this_spans h_this_kept h_this_text h_this_row h_this_read h_this_many h_this_first h_this_lengths h_this_page i_this j_this, (h_this_page, .inl (cB, 128, .inl f_this_page))] [cl_X10 h_this h_this_dayAt h_this_secondAt h_this_spans h_this_kept h_this_text h_this_row h_this_read h_this_many h_this_first h_this_lengths h_this_page o_i_this j_this, (h_this_page, .inl (cB, 128, .inl o_f_this_page))] := by
  refine MV.of (cc := cX10_writes) (maxL := 2) (by decide) (Nat.le_of_ble_eq_true rfl) (fun p e s m args below meth c A Q ls KC hN hK hP hD hA hl hEnd => ?_)
  obtain ⟨hx, hb, hml, hown, hts⟩ := KC
  have hown : s.vm.findClass "DateSpansModel" = some m.cls := hown
  have hl : lv_has ls 2 [(0, .ref h_this), (1, .int p1)] := hl
  have hS : va_S A s.heap s.heap [] := va_S.rf
  have h := hf
  unfold fX10_writes at h
  refine lv_aload_n hx hb dX10_writes_0 rfl (lv_at hl 0 rfl) ?_
  refine va_get (D := (dC, dI)) (ci := 9) (v := .ref h_this_page) (C := RX10) (T := TX10) (N := 29) hx hb hts inX10 hown hK hP 0 rfl rfl 27 (by decide) (hts _ (kq q_1013 rfl)) (fun _ h9 => h9) rfl dX10_writes_1 ?_
  refine lv_aload_n hx hb dX10_writes_4 rfl (lv_at hl 0 rfl) ?_
  refine va_get (D := (dC, dI)) (ci := 9) (v := .int (i_this 28)) (C := RX10) (T := TX10) (N := 29) hx hb hts inX10 hown hK hP 0 rfl rfl 28 (by decide) (hts _ (kq q_1014 rfl)) (fun _ h9 => h9) rfl dX10_writes_5 ?_
  refine lv_iload_n hx hb dX10_writes_8 rfl (lv_at hl 1 rfl) ?_
  refine lv_i2b hx hb dX10_writes_9 rfl ?_
  obtain ⟨hi1, h⟩ := gi_at h
  refine va_bast hx hb hK hP hD hS 1 2 rfl rfl hi1 dX10_writes_10 (fun H locs hP hD hS => ?_)
  have hP : va_P (dC, dI) vwCl [cl_X10 h_this h_this_dayAt h_this_secondAt h_this_spans h_this_kept h_this_text h_this_row h_this_read h_this_many h_this_first h_this_lengths h_this_page i_this j_this, (h_this_page, .inl (cB, 128, .inl (upd f_this_page (i_this 28).toNatClampNeg (vp_nar .byte p1.toInt8.toInt32))))] H := hP
  have hD : va_D A [cl_X10 h_this h_this_dayAt h_this_secondAt h_this_spans h_this_kept h_this_text h_this_row h_this_read h_this_many h_this_first h_this_lengths h_this_page i_this j_this, (h_this_page, .inl (cB, 128, .inl (upd f_this_page (i_this 28).toNatClampNeg (vp_nar .byte p1.toInt8.toInt32))))] := hD
  refine lv_aload_n hx hb dX10_writes_11 rfl (lv_at hl 0 rfl) ?_
  refine lv_dup hx hb dX10_writes_12 rfl ?_
  refine va_get (D := (dC, dI)) (ci := 9) (v := .int (i_this 28)) (C := RX10) (T := TX10) (N := 29) hx hb hts inX10 hown hK hP 0 rfl rfl 28 (by decide) (hts _ (kq q_1014 rfl)) (fun _ h9 => h9) rfl dX10_writes_13 ?_
  refine lv_iconst (v := (1 : Int32)) hx hb dX10_writes_16 (by decide) ?_
  refine lv_iadd hx hb dX10_writes_17 ?_
  refine va_put (D := (dC, dI)) (ci := 9) (v := .int ((i_this 28) + (1 : Int32))) (ty := .int) (C := RX10) (T := TX10) (N := 29) hx hb hts inX10 tyX10 tyX10_ok nmX10 hown hK hP hD hS 0 rfl rfl 28 (by decide) (hts _ (kq q_1014 rfl)) (fun _ h9 => h9) rfl (by decide +kernel) rfl rfl (Nat.le_of_ble_eq_true rfl) dX10_writes_18 (fun H locs hP hD hS => ?_)
  have hP : va_P (dC, dI) vwCl [(h_this, .inr (9, [.ref h_this_dayAt, .ref h_this_secondAt, .ref h_this_spans, .ref h_this_kept, .int (i_this 4), .ref h_this_text, .int (i_this 6), .ref h_this_row, .int (i_this 8), .int (i_this 9), .int (i_this 10), .int (i_this 11), .int (i_this 12), .int (i_this 13), .int (i_this 14), .int (i_this 15), .int (i_this 16), .int (i_this 17), .int (i_this 18), .ref h_this_read, .long (j_this 20), .ref h_this_many, .ref h_this_first, .ref h_this_lengths, .int (i_this 24), .long (j_this 25), .long (j_this 26), .ref h_this_page, .int ((i_this 28) + (1 : Int32))])), (h_this_page, .inl (cB, 128, .inl (upd f_this_page (i_this 28).toNatClampNeg (vp_nar .byte p1.toInt8.toInt32))))] H := hP
  have hD : va_D A [(h_this, .inr (9, [.ref h_this_dayAt, .ref h_this_secondAt, .ref h_this_spans, .ref h_this_kept, .int (i_this 4), .ref h_this_text, .int (i_this 6), .ref h_this_row, .int (i_this 8), .int (i_this 9), .int (i_this 10), .int (i_this 11), .int (i_this 12), .int (i_this 13), .int (i_this 14), .int (i_this 15), .int (i_this 16), .int (i_this 17), .int (i_this 18), .ref h_this_read, .long (j_this 20), .ref h_this_many, .ref h_this_first, .ref h_this_lengths, .int (i_this 24), .long (j_this 25), .long (j_this 26), .ref h_this_page, .int ((i_this 28) + (1 : Int32))])), (h_this_page, .inl (cB, 128, .inl (upd f_this_page (i_this 28).toNatClampNeg (vp_nar .byte p1.toInt8.toInt32))))] := hD
  have hP : va_P (dC, dI) vwCl [cl_X10 h_this h_this_dayAt h_this_secondAt h_this_spans h_this_kept h_this_text h_this_row h_this_read h_this_many h_this_first h_this_lengths h_this_page (upd i_this 28 ((i_this 28) + (1 : Int32))) j_this, (h_this_page, .inl (cB, 128, .inl (upd f_this_page (i_this 28).toNatClampNeg (vp_nar .byte p1.toInt8.toInt32))))] H := hP
  have hD : va_D A [cl_X10 h_this h_this_dayAt h_this_secondAt h_this_spans h_this_kept h_this_text h_this_row h_this_read h_this_many h_this_first h_this_lengths h_this_page (upd i_this 28 ((i_this 28) + (1 : Int32))) j_this, (h_this_page, .inl (cB, 128, .inl (upd f_this_page (i_this 28).toNatClampNeg (vp_nar .byte p1.toInt8.toInt32))))] := hD
  obtain ⟨rfl, rfl⟩ := pj2 h
  exact hEnd _ _ _ _ hP hS dX10_writes_21
noncomputable def fX10_writesTwo (N : Nat) (p1 : Int32) (i_this : Nat → Int32) (j_this : Nat → Int64) (f_this_page : Nat → Int32) : Option ((Nat → Int32) × (Nat → Int32)) := (bd2 (fX10_writes N ((48 : Int32) + (p1 / (10 : Int32))) i_this j_this f_this_page) fun i_this_1 f_this_page_2 => (bd2 (fX10_writes N ((48 : Int32) + (p1 - p1 / (10 : Int32) * (10 : Int32))) i_this_1 j_this f_this_page_2) fun i_this_4 f_this_page_5 => (some (i_this_4, f_this_page_5))))
set_option maxHeartbeats 4000000 in
set_option maxRecDepth 100000 in
theorem kX10_writesTwo (l : Launch) (dC : Nat → ClassId) (dI : Nat → Nat → Nat) (cI cJ cB : ClassId) (h_this h_this_dayAt h_this_secondAt h_this_spans h_this_kept h_this_text h_this_row h_this_read h_this_many h_this_first h_this_lengths h_this_page : Nat) (N : Nat) (p1 : Int32) (i_this : Nat → Int32) (j_this : Nat → Int64) (f_this_page : Nat → Int32) (o_i_this : Nat → Int32) (o_f_this_page : Nat → Int32) (hf : fX10_writesTwo N p1 i_this j_this f_this_page = some (o_i_this, o_f_this_page)) : MV l yX10_writesTwo (kws yX10_writesTwo cX10_writesTwo 2 (none)) (kR 1 21) (dC, dI) (kT cI cJ cB) [.ref h_this, .int p1] [cl_X10 h_this h_this_dayAt h_this_secondAt h_this_spans h_this_kept h_this_text h_this_row h_this_read h_this_many h_this_first h_this_lengths h_this_page i_this j_this, (h_this_page, .inl (cB, 128, .inl f_this_page))] [cl_X10 h_this h_this_dayAt h_this_secondAt h_this_spans h_this_kept h_this_text h_this_row h_this_read h_this_many h_this_first h_this_lengths h_this_page o_i_this j_this, (h_this_page, .inl (cB, 128, .inl o_f_this_page))] := by
  refine MV.of (cc := cX10_writesTwo) (maxL := 2) (by decide) (Nat.le_of_ble_eq_true rfl) (fun p e s m args below meth c A Q ls KC hN hK hP hD hA hl hEnd => ?_)
  obtain ⟨hx, hb, hml, hown, hts⟩ := KC
  have hown : s.vm.findClass "DateSpansModel" = some m.cls := hown
  have hl : lv_has ls 2 [(0, .ref h_this), (1, .int p1)] := hl
  have hS : va_S A s.heap s.heap [] := va_S.rf
  have h := hf
  unfold fX10_writesTwo at h
  refine lv_aload_n hx hb dX10_writesTwo_0 rfl (lv_at hl 0 rfl) ?_
  refine lv_bipush (v := (48 : Int32)) hx hb dX10_writesTwo_1 (by decide) ?_
  refine lv_iload_n hx hb dX10_writesTwo_3 rfl (lv_at hl 1 rfl) ?_
  refine lv_bipush (v := (10 : Int32)) hx hb dX10_writesTwo_4 (by decide) ?_
  refine lv_idiv hx hb dX10_writesTwo_6 (by decide) ?_
  refine lv_iadd hx hb dX10_writesTwo_7 ?_
  obtain ⟨i_this_1, f_this_page_2, hc3, h⟩ := bd2_at h
  refine kjV (kV (own := "DateSpansModel") (C := "DateSpansModel") (b := h_this) (As := [.int ((48 : Int32) + (p1 / (10 : Int32)))]) (rest := []) ⟨hx, hb, hml, hown, hts⟩ (kX10_writes l dC dI cI cJ cB h_this h_this_dayAt h_this_secondAt h_this_spans h_this_kept h_this_text h_this_row h_this_read h_this_many h_this_first h_this_lengths h_this_page N ((48 : Int32) + (p1 / (10 : Int32))) i_this j_this f_this_page i_this_1 f_this_page_2 hc3 _) (kgV (kq q_1534 rfl) (kq q_1536 rfl) (kq q_51 rfl) (kq q_66 rfl) (kq q_1537 rfl)) yd_X10_writes ⟨Nat.le_of_ble_eq_true rfl, Nat.le_of_ble_eq_true rfl⟩ hN hK hP hD [0, 1] rfl rfl (ci := 9) rfl rfl rfl rfl rfl hl.1 rfl (lv_room (Nat.le_of_ble_eq_true rfl)) dX10_writesTwo_8) hP hD hS hA [0, 1] rfl rfl (fun H locs hP hD hS => ?_)
  have hP : va_P (dC, dI) vwCl [cl_X10 h_this h_this_dayAt h_this_secondAt h_this_spans h_this_kept h_this_text h_this_row h_this_read h_this_many h_this_first h_this_lengths h_this_page i_this_1 j_this, (h_this_page, .inl (cB, 128, .inl f_this_page_2))] H := hP
  have hD : va_D A [cl_X10 h_this h_this_dayAt h_this_secondAt h_this_spans h_this_kept h_this_text h_this_row h_this_read h_this_many h_this_first h_this_lengths h_this_page i_this_1 j_this, (h_this_page, .inl (cB, 128, .inl f_this_page_2))] := hD
  refine lv_aload_n hx hb dX10_writesTwo_11 rfl (lv_at hl 0 rfl) ?_
  refine lv_bipush (v := (48 : Int32)) hx hb dX10_writesTwo_12 (by decide) ?_
  refine lv_iload_n hx hb dX10_writesTwo_14 rfl (lv_at hl 1 rfl) ?_
  refine lv_bipush (v := (10 : Int32)) hx hb dX10_writesTwo_15 (by decide) ?_
  refine lv_irem hx hb dX10_writesTwo_17 (by decide) ?_
  refine lv_iadd hx hb dX10_writesTwo_18 ?_
  obtain ⟨i_this_4, f_this_page_5, hc6, h⟩ := bd2_at h
  refine kjV (kV (own := "DateSpansModel") (C := "DateSpansModel") (b := h_this) (As := [.int ((48 : Int32) + (p1 - p1 / (10 : Int32) * (10 : Int32)))]) (rest := []) ⟨hx, hb, hml, hown, hts⟩ (kX10_writes l dC dI cI cJ cB h_this h_this_dayAt h_this_secondAt h_this_spans h_this_kept h_this_text h_this_row h_this_read h_this_many h_this_first h_this_lengths h_this_page N ((48 : Int32) + (p1 - p1 / (10 : Int32) * (10 : Int32))) i_this_1 j_this f_this_page_2 i_this_4 f_this_page_5 hc6 _) (kgV (kq q_1534 rfl) (kq q_1536 rfl) (kq q_51 rfl) (kq q_66 rfl) (kq q_1537 rfl)) yd_X10_writes ⟨Nat.le_of_ble_eq_true rfl, Nat.le_of_ble_eq_true rfl⟩ hN hK hP hD [0, 1] rfl rfl (ci := 9) rfl rfl rfl rfl rfl hl.1 rfl (lv_room (Nat.le_of_ble_eq_true rfl)) dX10_writesTwo_19) hP hD hS hA [0, 1] rfl rfl (fun H locs hP hD hS => ?_)
  have hP : va_P (dC, dI) vwCl [cl_X10 h_this h_this_dayAt h_this_secondAt h_this_spans h_this_kept h_this_text h_this_row h_this_read h_this_many h_this_first h_this_lengths h_this_page i_this_4 j_this, (h_this_page, .inl (cB, 128, .inl f_this_page_5))] H := hP
  have hD : va_D A [cl_X10 h_this h_this_dayAt h_this_secondAt h_this_spans h_this_kept h_this_text h_this_row h_this_read h_this_many h_this_first h_this_lengths h_this_page i_this_4 j_this, (h_this_page, .inl (cB, 128, .inl f_this_page_5))] := hD
  obtain ⟨rfl, rfl⟩ := pj2 h
  exact hEnd _ _ _ _ hP hS dX10_writesTwo_22
noncomputable def fX10_signOf (N : Nat) (p1 : Int32) (i_this : Nat → Int32) (j_this : Nat → Int64) (f_this_page : Nat → Int32) : Option (Int32) := (if p1 = (-1 : Int32) then (some (i_this 28)) else (bd1 (fX10_in N p1.toInt64 (0 : Int64) (((i_this 28) - (1 : Int32)).toInt64)) fun r2 => (if r2 = (0 : Int32) then (some (-1 : Int32)) else (gi p1 128 (some (f_this_page p1.toNatClampNeg))))))
set_option maxHeartbeats 4000000 in
set_option maxRecDepth 100000 in
theorem kX10_signOf (l : Launch) (dC : Nat → ClassId) (dI : Nat → Nat → Nat) (cI cJ cB : ClassId) (h_this h_this_dayAt h_this_secondAt h_this_spans h_this_kept h_this_text h_this_row h_this_read h_this_many h_this_first h_this_lengths h_this_page : Nat) (N : Nat) (p1 : Int32) (i_this : Nat → Int32) (j_this : Nat → Int64) (f_this_page : Nat → Int32) (r : Int32) (hf : fX10_signOf N p1 i_this j_this f_this_page = some r) : MI l yX10_signOf (kws yX10_signOf cX10_signOf 2 (some .int)) (kR 1 25) (dC, dI) (kT cI cJ cB) [.ref h_this, .int p1] [cl_X10 h_this h_this_dayAt h_this_secondAt h_this_spans h_this_kept h_this_text h_this_row h_this_read h_this_many h_this_first h_this_lengths h_this_page i_this j_this, (h_this_page, .inl (cB, 128, .inl f_this_page))] [cl_X10 h_this h_this_dayAt h_this_secondAt h_this_spans h_this_kept h_this_text h_this_row h_this_read h_this_many h_this_first h_this_lengths h_this_page i_this j_this, (h_this_page, .inl (cB, 128, .inl f_this_page))] r := by
  refine MI.of (cc := cX10_signOf) (maxL := 2) (by decide) (Nat.le_of_ble_eq_true rfl) (fun p e s m args below meth c A Q ls KC hN hK hP hD hA hl hEnd => ?_)
  obtain ⟨hx, hb, hml, hown, hts⟩ := KC
  have hown : s.vm.findClass "DateSpansModel" = some m.cls := hown
  have hl : lv_has ls 2 [(0, .ref h_this), (1, .int p1)] := hl
  have hS : va_S A s.heap s.heap [] := va_S.rf
  have h := hf
  unfold fX10_signOf at h
  refine lv_iload_n hx hb dX10_signOf_0 rfl (lv_at hl 1 rfl) ?_
  refine lv_iconst (v := (-1 : Int32)) hx hb dX10_signOf_1 (by decide) ?_
  refine lv_icmp_ne (tgt := 12) hx hb dX10_signOf_2 (by decide) (fun c1 => ?_) (fun c1 => ?_)
  · have h := ite_f c1 h
    refine lv_iload_n hx hb dX10_signOf_12 rfl (lv_at hl 1 rfl) ?_
    refine lv_i2l hx hb dX10_signOf_13 rfl ?_
    refine lv_lconst (v := (0 : Int64)) hx hb dX10_signOf_14 (by decide) ?_
    refine lv_aload_n hx hb dX10_signOf_15 rfl (lv_at hl 0 rfl) ?_
    refine va_get (D := (dC, dI)) (ci := 9) (v := .int (i_this 28)) (C := RX10) (T := TX10) (N := 29) hx hb hts inX10 hown hK hP 0 rfl rfl 28 (by decide) (hts _ (kq q_1014 rfl)) (fun _ h9 => h9) rfl dX10_signOf_16 ?_
    refine lv_iconst (v := (1 : Int32)) hx hb dX10_signOf_19 (by decide) ?_
    refine lv_isub hx hb dX10_signOf_20 ?_
    refine lv_i2l hx hb dX10_signOf_21 rfl ?_
    obtain ⟨r2, hc3, h⟩ := bd1_at h
    refine kjSI (kS0 (own := "DateSpansModel") (As := [.long p1.toInt64, .long (0 : Int64), .long (((i_this 28) - (1 : Int32)).toInt64)]) (rest := []) ⟨hx, hb, hml, hown, hts⟩ (kX10_in l N p1.toInt64 (0 : Int64) (((i_this 28) - (1 : Int32)).toInt64) r2 hc3) (kgS (kq q_1086 rfl) (kq q_1087 rfl) (kq q_66 rfl) (kq q_1088 rfl)) yd_X10_in ⟨Nat.le_of_ble_eq_true rfl, Nat.le_of_ble_eq_true rfl⟩ rfl rfl hl.1 rfl (lv_room (Nat.le_of_ble_eq_true rfl)) dX10_signOf_22) ?_
    refine lv_if_eq (tgt := 37) hx hb dX10_signOf_25 (by decide) (fun c4 => ?_) (fun c4 => ?_)
    · have h := ite_t c4 h
      refine lv_iconst (v := (-1 : Int32)) hx hb dX10_signOf_37 (by decide) ?_
      obtain rfl := pj1 h
      exact hEnd _ _ _ _ hP hS dX10_signOf_38 rfl
    have h := ite_f c4 h
    refine lv_aload_n hx hb dX10_signOf_28 rfl (lv_at hl 0 rfl) ?_
    refine va_get (D := (dC, dI)) (ci := 9) (v := .ref h_this_page) (C := RX10) (T := TX10) (N := 29) hx hb hts inX10 hown hK hP 0 rfl rfl 27 (by decide) (hts _ (kq q_1013 rfl)) (fun _ h9 => h9) rfl dX10_signOf_29 ?_
    refine lv_iload_n hx hb dX10_signOf_32 rfl (lv_at hl 1 rfl) ?_
    obtain ⟨hi5, h⟩ := gi_at h
    refine va_bald hx hb hK hP 1 2 rfl rfl hi5 dX10_signOf_33 ?_
    refine lv_goto (tgt := 38) hx hb dX10_signOf_34 (by decide) ?_
    obtain rfl := pj1 h
    exact hEnd _ _ _ _ hP hS dX10_signOf_38 rfl
  have h := ite_t c1 h
  refine lv_aload_n hx hb dX10_signOf_5 rfl (lv_at hl 0 rfl) ?_
  refine va_get (D := (dC, dI)) (ci := 9) (v := .int (i_this 28)) (C := RX10) (T := TX10) (N := 29) hx hb hts inX10 hown hK hP 0 rfl rfl 28 (by decide) (hts _ (kq q_1014 rfl)) (fun _ h9 => h9) rfl dX10_signOf_6 ?_
  refine lv_goto (tgt := 38) hx hb dX10_signOf_9 (by decide) ?_
  obtain rfl := pj1 h
  exact hEnd _ _ _ _ hP hS dX10_signOf_38 rfl
noncomputable def fX10_written (N : Nat) (p1 : Int32) (p2 : Int32) (i_this : Nat → Int32) (j_this : Nat → Int64) (f_this_dayAt : Nat → Int32) (f_this_secondAt : Nat → Int32) (f_this_page : Nat → Int32) : Option (Int32 × (Nat → Int32) × (Nat → Int32)) := (bd1 (fX10_isSlot N p1) fun r1 => (if r1 = (0 : Int32) then (some ((-1 : Int32), (upd i_this 9 (0 : Int32)), f_this_page)) else (gi p1 8 (bd1 (fX10_dates N (f_this_dayAt p1.toNatClampNeg) (upd i_this 9 (0 : Int32)) j_this) fun i_this_5 => (bd2 (fX10_writesTwo N ((i_this_5 10) / (100 : Int32)) (upd i_this_5 28 (0 : Int32)) j_this f_this_page) fun i_this_7 f_this_page_8 => (bd2 (fX10_writesTwo N ((i_this_7 10) - (i_this_7 10) / (100 : Int32) * (100 : Int32)) i_this_7 j_this f_this_page_8) fun i_this_10 f_this_page_11 => (bd2 (fX10_writes N (45 : Int32) i_this_10 j_this f_this_page_11) fun i_this_13 f_this_page_14 => (bd2 (fX10_writesTwo N (i_this_13 11) i_this_13 j_this f_this_page_14) fun i_this_16 f_this_page_17 => (bd2 (fX10_writes N (45 : Int32) i_this_16 j_this f_this_page_17) fun i_this_19 f_this_page_20 => (bd2 (fX10_writesTwo N (i_this_19 12) i_this_19 j_this f_this_page_20) fun i_this_22 f_this_page_23 => (gi p1 8 (if (f_this_secondAt p1.toNatClampNeg) ≤ (0 : Int32) then (bd1 (fX10_signOf N p2 i_this_22 j_this f_this_page_23) fun r27 => (some (r27, i_this_22, f_this_page_23))) else (bd2 (fX10_writes N (84 : Int32) i_this_22 j_this f_this_page_23) fun i_this_29 f_this_page_30 => (gi p1 8 (bd2 (fX10_writesTwo N ((f_this_secondAt p1.toNatClampNeg) / (3600 : Int32)) i_this_29 j_this f_this_page_30) fun i_this_33 f_this_page_34 => (bd2 (fX10_writes N (58 : Int32) i_this_33 j_this f_this_page_34) fun i_this_36 f_this_page_37 => (gi p1 8 (bd2 (fX10_writesTwo N (((f_this_secondAt p1.toNatClampNeg) / (60 : Int32)) - ((f_this_secondAt p1.toNatClampNeg) / (60 : Int32)) / (60 : Int32) * (60 : Int32)) i_this_36 j_this f_this_page_37) fun i_this_40 f_this_page_41 => (bd2 (fX10_writes N (58 : Int32) i_this_40 j_this f_this_page_41) fun i_this_43 f_this_page_44 => (gi p1 8 (bd2 (fX10_writesTwo N ((f_this_secondAt p1.toNatClampNeg) - (f_this_secondAt p1.toNatClampNeg) / (60 : Int32) * (60 : Int32)) i_this_43 j_this f_this_page_44) fun i_this_47 f_this_page_48 => (bd1 (fX10_signOf N p2 i_this_47 j_this f_this_page_48) fun r50 => (some (r50, i_this_47, f_this_page_48))))))))))))))))))))))))
set_option maxHeartbeats 4000000 in
set_option maxRecDepth 100000 in
theorem kX10_written (l : Launch) (dC : Nat → ClassId) (dI : Nat → Nat → Nat) (cI cJ cB : ClassId) (h_this h_this_dayAt h_this_secondAt h_this_spans h_this_kept h_this_text h_this_row h_this_read h_this_many h_this_first h_this_lengths h_this_page : Nat) (N : Nat) (p1 : Int32) (p2 : Int32) (i_this : Nat → Int32) (j_this : Nat → Int64) (f_this_dayAt : Nat → Int32) (f_this_secondAt : Nat → Int32) (f_this_page : Nat → Int32) (r : Int32) (o_i_this : Nat → Int32) (o_f_this_page : Nat → Int32) (hf : fX10_written N p1 p2 i_this j_this f_this_dayAt f_this_secondAt f_this_page = some (r, o_i_this, o_f_this_page)) : MI l yX10_written (kws yX10_written cX10_written 3 (some .int)) (kR 3 66) (dC, dI) (kT cI cJ cB) [.ref h_this, .int p1, .int p2] [cl_X10 h_this h_this_dayAt h_this_secondAt h_this_spans h_this_kept h_this_text h_this_row h_this_read h_this_many h_this_first h_this_lengths h_this_page i_this j_this, (h_this_dayAt, .inl (cI, 8, .inl f_this_dayAt)), (h_this_secondAt, .inl (cI, 8, .inl f_this_secondAt)), (h_this_page, .inl (cB, 128, .inl f_this_page))] [cl_X10 h_this h_this_dayAt h_this_secondAt h_this_spans h_this_kept h_this_text h_this_row h_this_read h_this_many h_this_first h_this_lengths h_this_page o_i_this j_this, (h_this_dayAt, .inl (cI, 8, .inl f_this_dayAt)), (h_this_secondAt, .inl (cI, 8, .inl f_this_secondAt)), (h_this_page, .inl (cB, 128, .inl o_f_this_page))] r := by
  refine MI.of (cc := cX10_written) (maxL := 3) (by decide) (Nat.le_of_ble_eq_true rfl) (fun p e s m args below meth c A Q ls KC hN hK hP hD hA hl hEnd => ?_)
  obtain ⟨hx, hb, hml, hown, hts⟩ := KC
  have hown : s.vm.findClass "DateSpansModel" = some m.cls := hown
  have hl : lv_has ls 3 [(0, .ref h_this), (1, .int p1), (2, .int p2)] := hl
  have hS : va_S A s.heap s.heap [] := va_S.rf
  have h := hf
  unfold fX10_written at h
  refine lv_aload_n hx hb dX10_written_0 rfl (lv_at hl 0 rfl) ?_
  refine lv_iconst (v := (0 : Int32)) hx hb dX10_written_1 (by decide) ?_
  refine va_put (D := (dC, dI)) (ci := 9) (v := .int (0 : Int32)) (ty := .int) (C := RX10) (T := TX10) (N := 29) hx hb hts inX10 tyX10 tyX10_ok nmX10 hown hK hP hD hS 0 rfl rfl 9 (by decide) (hts _ (kq q_995 rfl)) (fun _ h9 => h9) rfl (by decide +kernel) rfl rfl (Nat.le_of_ble_eq_true rfl) dX10_written_2 (fun H locs hP hD hS => ?_)
  have hP : va_P (dC, dI) vwCl [(h_this, .inr (9, [.ref h_this_dayAt, .ref h_this_secondAt, .ref h_this_spans, .ref h_this_kept, .int (i_this 4), .ref h_this_text, .int (i_this 6), .ref h_this_row, .int (i_this 8), .int (0 : Int32), .int (i_this 10), .int (i_this 11), .int (i_this 12), .int (i_this 13), .int (i_this 14), .int (i_this 15), .int (i_this 16), .int (i_this 17), .int (i_this 18), .ref h_this_read, .long (j_this 20), .ref h_this_many, .ref h_this_first, .ref h_this_lengths, .int (i_this 24), .long (j_this 25), .long (j_this 26), .ref h_this_page, .int (i_this 28)])), (h_this_dayAt, .inl (cI, 8, .inl f_this_dayAt)), (h_this_secondAt, .inl (cI, 8, .inl f_this_secondAt)), (h_this_page, .inl (cB, 128, .inl f_this_page))] H := hP
  have hD : va_D A [(h_this, .inr (9, [.ref h_this_dayAt, .ref h_this_secondAt, .ref h_this_spans, .ref h_this_kept, .int (i_this 4), .ref h_this_text, .int (i_this 6), .ref h_this_row, .int (i_this 8), .int (0 : Int32), .int (i_this 10), .int (i_this 11), .int (i_this 12), .int (i_this 13), .int (i_this 14), .int (i_this 15), .int (i_this 16), .int (i_this 17), .int (i_this 18), .ref h_this_read, .long (j_this 20), .ref h_this_many, .ref h_this_first, .ref h_this_lengths, .int (i_this 24), .long (j_this 25), .long (j_this 26), .ref h_this_page, .int (i_this 28)])), (h_this_dayAt, .inl (cI, 8, .inl f_this_dayAt)), (h_this_secondAt, .inl (cI, 8, .inl f_this_secondAt)), (h_this_page, .inl (cB, 128, .inl f_this_page))] := hD
  refine lv_iload_n hx hb dX10_written_5 rfl (lv_at hl 1 rfl) ?_
  have hP : va_P (dC, dI) vwCl [cl_X10 h_this h_this_dayAt h_this_secondAt h_this_spans h_this_kept h_this_text h_this_row h_this_read h_this_many h_this_first h_this_lengths h_this_page (upd i_this 9 (0 : Int32)) j_this, (h_this_dayAt, .inl (cI, 8, .inl f_this_dayAt)), (h_this_secondAt, .inl (cI, 8, .inl f_this_secondAt)), (h_this_page, .inl (cB, 128, .inl f_this_page))] H := hP
  have hD : va_D A [cl_X10 h_this h_this_dayAt h_this_secondAt h_this_spans h_this_kept h_this_text h_this_row h_this_read h_this_many h_this_first h_this_lengths h_this_page (upd i_this 9 (0 : Int32)) j_this, (h_this_dayAt, .inl (cI, 8, .inl f_this_dayAt)), (h_this_secondAt, .inl (cI, 8, .inl f_this_secondAt)), (h_this_page, .inl (cB, 128, .inl f_this_page))] := hD
  obtain ⟨r1, hc2, h⟩ := bd1_at h
  refine kjSI (kS0 (own := "DateSpansModel") (As := [.int p1]) (rest := []) ⟨hx, hb, hml, hown, hts⟩ (kX10_isSlot l N p1 r1 hc2) (kgS (kq q_1123 rfl) (kq q_1124 rfl) (kq q_66 rfl) (kq q_1125 rfl)) yd_X10_isSlot ⟨Nat.le_of_ble_eq_true rfl, Nat.le_of_ble_eq_true rfl⟩ rfl rfl hl.1 rfl (lv_room (Nat.le_of_ble_eq_true rfl)) dX10_written_6) ?_
  refine lv_if_ne (tgt := 14) hx hb dX10_written_9 (by decide) (fun c3 => ?_) (fun c3 => ?_)
  · have h := ite_f c3 h
    refine lv_aload_n hx hb dX10_written_14 rfl (lv_at hl 0 rfl) ?_
    refine lv_aload_n hx hb dX10_written_15 rfl (lv_at hl 0 rfl) ?_
    refine va_get (D := (dC, dI)) (ci := 9) (v := .ref h_this_dayAt) (C := RX10) (T := TX10) (N := 29) hx hb hts inX10 hown hK hP 0 rfl rfl 0 (by decide) (hts _ (kq q_986 rfl)) (fun _ h9 => h9) rfl dX10_written_16 ?_
    refine lv_iload_n hx hb dX10_written_19 rfl (lv_at hl 1 rfl) ?_
    obtain ⟨hi4, h⟩ := gi_at h
    refine va_iald hx hb hK hP 1 0 rfl rfl hi4 dX10_written_20 ?_
    obtain ⟨i_this_5, hc6, h⟩ := bd1_at h
    refine kjV (kV (own := "DateSpansModel") (C := "DateSpansModel") (b := h_this) (As := [.int (f_this_dayAt p1.toNatClampNeg)]) (rest := []) ⟨hx, hb, hml, hown, hts⟩ (kX10_dates l dC dI cI cJ cB h_this h_this_dayAt h_this_secondAt h_this_spans h_this_kept h_this_text h_this_row h_this_read h_this_many h_this_first h_this_lengths h_this_page N (f_this_dayAt p1.toNatClampNeg) (upd i_this 9 (0 : Int32)) j_this i_this_5 hc6 _) (kgV (kq q_1238 rfl) (kq q_1240 rfl) (kq q_30 rfl) (kq q_66 rfl) (kq q_1241 rfl)) yd_X10_dates ⟨Nat.le_of_ble_eq_true rfl, Nat.le_of_ble_eq_true rfl⟩ hN hK hP hD [0] rfl rfl (ci := 9) rfl rfl rfl rfl rfl hl.1 rfl (lv_room (Nat.le_of_ble_eq_true rfl)) dX10_written_21) hP hD hS hA [0] rfl rfl (fun H locs hP hD hS => ?_)
    have hP : va_P (dC, dI) vwCl [cl_X10 h_this h_this_dayAt h_this_secondAt h_this_spans h_this_kept h_this_text h_this_row h_this_read h_this_many h_this_first h_this_lengths h_this_page i_this_5 j_this, (h_this_dayAt, .inl (cI, 8, .inl f_this_dayAt)), (h_this_secondAt, .inl (cI, 8, .inl f_this_secondAt)), (h_this_page, .inl (cB, 128, .inl f_this_page))] H := hP
    have hD : va_D A [cl_X10 h_this h_this_dayAt h_this_secondAt h_this_spans h_this_kept h_this_text h_this_row h_this_read h_this_many h_this_first h_this_lengths h_this_page i_this_5 j_this, (h_this_dayAt, .inl (cI, 8, .inl f_this_dayAt)), (h_this_secondAt, .inl (cI, 8, .inl f_this_secondAt)), (h_this_page, .inl (cB, 128, .inl f_this_page))] := hD
    refine lv_aload_n hx hb dX10_written_24 rfl (lv_at hl 0 rfl) ?_
    refine lv_iconst (v := (0 : Int32)) hx hb dX10_written_25 (by decide) ?_
    refine va_put (D := (dC, dI)) (ci := 9) (v := .int (0 : Int32)) (ty := .int) (C := RX10) (T := TX10) (N := 29) hx hb hts inX10 tyX10 tyX10_ok nmX10 hown hK hP hD hS 0 rfl rfl 28 (by decide) (hts _ (kq q_1014 rfl)) (fun _ h9 => h9) rfl (by decide +kernel) rfl rfl (Nat.le_of_ble_eq_true rfl) dX10_written_26 (fun H locs hP hD hS => ?_)
    have hP : va_P (dC, dI) vwCl [(h_this, .inr (9, [.ref h_this_dayAt, .ref h_this_secondAt, .ref h_this_spans, .ref h_this_kept, .int (i_this_5 4), .ref h_this_text, .int (i_this_5 6), .ref h_this_row, .int (i_this_5 8), .int (i_this_5 9), .int (i_this_5 10), .int (i_this_5 11), .int (i_this_5 12), .int (i_this_5 13), .int (i_this_5 14), .int (i_this_5 15), .int (i_this_5 16), .int (i_this_5 17), .int (i_this_5 18), .ref h_this_read, .long (j_this 20), .ref h_this_many, .ref h_this_first, .ref h_this_lengths, .int (i_this_5 24), .long (j_this 25), .long (j_this 26), .ref h_this_page, .int (0 : Int32)])), (h_this_dayAt, .inl (cI, 8, .inl f_this_dayAt)), (h_this_secondAt, .inl (cI, 8, .inl f_this_secondAt)), (h_this_page, .inl (cB, 128, .inl f_this_page))] H := hP
    have hD : va_D A [(h_this, .inr (9, [.ref h_this_dayAt, .ref h_this_secondAt, .ref h_this_spans, .ref h_this_kept, .int (i_this_5 4), .ref h_this_text, .int (i_this_5 6), .ref h_this_row, .int (i_this_5 8), .int (i_this_5 9), .int (i_this_5 10), .int (i_this_5 11), .int (i_this_5 12), .int (i_this_5 13), .int (i_this_5 14), .int (i_this_5 15), .int (i_this_5 16), .int (i_this_5 17), .int (i_this_5 18), .ref h_this_read, .long (j_this 20), .ref h_this_many, .ref h_this_first, .ref h_this_lengths, .int (i_this_5 24), .long (j_this 25), .long (j_this 26), .ref h_this_page, .int (0 : Int32)])), (h_this_dayAt, .inl (cI, 8, .inl f_this_dayAt)), (h_this_secondAt, .inl (cI, 8, .inl f_this_secondAt)), (h_this_page, .inl (cB, 128, .inl f_this_page))] := hD
    refine lv_aload_n hx hb dX10_written_29 rfl (lv_at hl 0 rfl) ?_
    refine lv_aload_n hx hb dX10_written_30 rfl (lv_at hl 0 rfl) ?_
    refine va_get (D := (dC, dI)) (ci := 9) (v := .int (i_this_5 10)) (C := RX10) (T := TX10) (N := 29) hx hb hts inX10 hown hK hP 0 rfl rfl 10 (by decide) (hts _ (kq q_996 rfl)) (fun _ h9 => h9) rfl dX10_written_31 ?_
    refine lv_bipush (v := (100 : Int32)) hx hb dX10_written_34 (by decide) ?_
    refine lv_idiv hx hb dX10_written_36 (by decide) ?_
    have hP : va_P (dC, dI) vwCl [cl_X10 h_this h_this_dayAt h_this_secondAt h_this_spans h_this_kept h_this_text h_this_row h_this_read h_this_many h_this_first h_this_lengths h_this_page (upd i_this_5 28 (0 : Int32)) j_this, (h_this_dayAt, .inl (cI, 8, .inl f_this_dayAt)), (h_this_secondAt, .inl (cI, 8, .inl f_this_secondAt)), (h_this_page, .inl (cB, 128, .inl f_this_page))] H := hP
    have hD : va_D A [cl_X10 h_this h_this_dayAt h_this_secondAt h_this_spans h_this_kept h_this_text h_this_row h_this_read h_this_many h_this_first h_this_lengths h_this_page (upd i_this_5 28 (0 : Int32)) j_this, (h_this_dayAt, .inl (cI, 8, .inl f_this_dayAt)), (h_this_secondAt, .inl (cI, 8, .inl f_this_secondAt)), (h_this_page, .inl (cB, 128, .inl f_this_page))] := hD
    obtain ⟨i_this_7, f_this_page_8, hc9, h⟩ := bd2_at h
    refine kjV (kV (own := "DateSpansModel") (C := "DateSpansModel") (b := h_this) (As := [.int ((i_this_5 10) / (100 : Int32))]) (rest := []) ⟨hx, hb, hml, hown, hts⟩ (kX10_writesTwo l dC dI cI cJ cB h_this h_this_dayAt h_this_secondAt h_this_spans h_this_kept h_this_text h_this_row h_this_read h_this_many h_this_first h_this_lengths h_this_page N ((i_this_5 10) / (100 : Int32)) (upd i_this_5 28 (0 : Int32)) j_this f_this_page i_this_7 f_this_page_8 hc9 _) (kgV (kq q_1530 rfl) (kq q_1532 rfl) (kq q_50 rfl) (kq q_66 rfl) (kq q_1533 rfl)) yd_X10_writesTwo ⟨Nat.le_of_ble_eq_true rfl, Nat.le_of_ble_eq_true rfl⟩ hN hK hP hD [0, 3] rfl rfl (ci := 9) rfl rfl rfl rfl rfl hl.1 rfl (lv_room (Nat.le_of_ble_eq_true rfl)) dX10_written_37) hP hD hS hA [0, 3] rfl rfl (fun H locs hP hD hS => ?_)
    have hP : va_P (dC, dI) vwCl [cl_X10 h_this h_this_dayAt h_this_secondAt h_this_spans h_this_kept h_this_text h_this_row h_this_read h_this_many h_this_first h_this_lengths h_this_page i_this_7 j_this, (h_this_dayAt, .inl (cI, 8, .inl f_this_dayAt)), (h_this_secondAt, .inl (cI, 8, .inl f_this_secondAt)), (h_this_page, .inl (cB, 128, .inl f_this_page_8))] H := hP
    have hD : va_D A [cl_X10 h_this h_this_dayAt h_this_secondAt h_this_spans h_this_kept h_this_text h_this_row h_this_read h_this_many h_this_first h_this_lengths h_this_page i_this_7 j_this, (h_this_dayAt, .inl (cI, 8, .inl f_this_dayAt)), (h_this_secondAt, .inl (cI, 8, .inl f_this_secondAt)), (h_this_page, .inl (cB, 128, .inl f_this_page_8))] := hD
    refine lv_aload_n hx hb dX10_written_40 rfl (lv_at hl 0 rfl) ?_
    refine lv_aload_n hx hb dX10_written_41 rfl (lv_at hl 0 rfl) ?_
    refine va_get (D := (dC, dI)) (ci := 9) (v := .int (i_this_7 10)) (C := RX10) (T := TX10) (N := 29) hx hb hts inX10 hown hK hP 0 rfl rfl 10 (by decide) (hts _ (kq q_996 rfl)) (fun _ h9 => h9) rfl dX10_written_42 ?_
    refine lv_bipush (v := (100 : Int32)) hx hb dX10_written_45 (by decide) ?_
    refine lv_irem hx hb dX10_written_47 (by decide) ?_
    obtain ⟨i_this_10, f_this_page_11, hc12, h⟩ := bd2_at h
    refine kjV (kV (own := "DateSpansModel") (C := "DateSpansModel") (b := h_this) (As := [.int ((i_this_7 10) - (i_this_7 10) / (100 : Int32) * (100 : Int32))]) (rest := []) ⟨hx, hb, hml, hown, hts⟩ (kX10_writesTwo l dC dI cI cJ cB h_this h_this_dayAt h_this_secondAt h_this_spans h_this_kept h_this_text h_this_row h_this_read h_this_many h_this_first h_this_lengths h_this_page N ((i_this_7 10) - (i_this_7 10) / (100 : Int32) * (100 : Int32)) i_this_7 j_this f_this_page_8 i_this_10 f_this_page_11 hc12 _) (kgV (kq q_1530 rfl) (kq q_1532 rfl) (kq q_50 rfl) (kq q_66 rfl) (kq q_1533 rfl)) yd_X10_writesTwo ⟨Nat.le_of_ble_eq_true rfl, Nat.le_of_ble_eq_true rfl⟩ hN hK hP hD [0, 3] rfl rfl (ci := 9) rfl rfl rfl rfl rfl hl.1 rfl (lv_room (Nat.le_of_ble_eq_true rfl)) dX10_written_48) hP hD hS hA [0, 3] rfl rfl (fun H locs hP hD hS => ?_)
    have hP : va_P (dC, dI) vwCl [cl_X10 h_this h_this_dayAt h_this_secondAt h_this_spans h_this_kept h_this_text h_this_row h_this_read h_this_many h_this_first h_this_lengths h_this_page i_this_10 j_this, (h_this_dayAt, .inl (cI, 8, .inl f_this_dayAt)), (h_this_secondAt, .inl (cI, 8, .inl f_this_secondAt)), (h_this_page, .inl (cB, 128, .inl f_this_page_11))] H := hP
    have hD : va_D A [cl_X10 h_this h_this_dayAt h_this_secondAt h_this_spans h_this_kept h_this_text h_this_row h_this_read h_this_many h_this_first h_this_lengths h_this_page i_this_10 j_this, (h_this_dayAt, .inl (cI, 8, .inl f_this_dayAt)), (h_this_secondAt, .inl (cI, 8, .inl f_this_secondAt)), (h_this_page, .inl (cB, 128, .inl f_this_page_11))] := hD
    refine lv_aload_n hx hb dX10_written_51 rfl (lv_at hl 0 rfl) ?_
    refine lv_bipush (v := (45 : Int32)) hx hb dX10_written_52 (by decide) ?_
    obtain ⟨i_this_13, f_this_page_14, hc15, h⟩ := bd2_at h
    refine kjV (kV (own := "DateSpansModel") (C := "DateSpansModel") (b := h_this) (As := [.int (45 : Int32)]) (rest := []) ⟨hx, hb, hml, hown, hts⟩ (kX10_writes l dC dI cI cJ cB h_this h_this_dayAt h_this_secondAt h_this_spans h_this_kept h_this_text h_this_row h_this_read h_this_many h_this_first h_this_lengths h_this_page N (45 : Int32) i_this_10 j_this f_this_page_11 i_this_13 f_this_page_14 hc15 _) (kgV (kq q_1534 rfl) (kq q_1536 rfl) (kq q_51 rfl) (kq q_66 rfl) (kq q_1537 rfl)) yd_X10_writes ⟨Nat.le_of_ble_eq_true rfl, Nat.le_of_ble_eq_true rfl⟩ hN hK hP hD [0, 3] rfl rfl (ci := 9) rfl rfl rfl rfl rfl hl.1 rfl (lv_room (Nat.le_of_ble_eq_true rfl)) dX10_written_54) hP hD hS hA [0, 3] rfl rfl (fun H locs hP hD hS => ?_)
    have hP : va_P (dC, dI) vwCl [cl_X10 h_this h_this_dayAt h_this_secondAt h_this_spans h_this_kept h_this_text h_this_row h_this_read h_this_many h_this_first h_this_lengths h_this_page i_this_13 j_this, (h_this_dayAt, .inl (cI, 8, .inl f_this_dayAt)), (h_this_secondAt, .inl (cI, 8, .inl f_this_secondAt)), (h_this_page, .inl (cB, 128, .inl f_this_page_14))] H := hP
    have hD : va_D A [cl_X10 h_this h_this_dayAt h_this_secondAt h_this_spans h_this_kept h_this_text h_this_row h_this_read h_this_many h_this_first h_this_lengths h_this_page i_this_13 j_this, (h_this_dayAt, .inl (cI, 8, .inl f_this_dayAt)), (h_this_secondAt, .inl (cI, 8, .inl f_this_secondAt)), (h_this_page, .inl (cB, 128, .inl f_this_page_14))] := hD
    refine lv_aload_n hx hb dX10_written_57 rfl (lv_at hl 0 rfl) ?_
    refine lv_aload_n hx hb dX10_written_58 rfl (lv_at hl 0 rfl) ?_
    refine va_get (D := (dC, dI)) (ci := 9) (v := .int (i_this_13 11)) (C := RX10) (T := TX10) (N := 29) hx hb hts inX10 hown hK hP 0 rfl rfl 11 (by decide) (hts _ (kq q_997 rfl)) (fun _ h9 => h9) rfl dX10_written_59 ?_
    obtain ⟨i_this_16, f_this_page_17, hc18, h⟩ := bd2_at h
    refine kjV (kV (own := "DateSpansModel") (C := "DateSpansModel") (b := h_this) (As := [.int (i_this_13 11)]) (rest := []) ⟨hx, hb, hml, hown, hts⟩ (kX10_writesTwo l dC dI cI cJ cB h_this h_this_dayAt h_this_secondAt h_this_spans h_this_kept h_this_text h_this_row h_this_read h_this_many h_this_first h_this_lengths h_this_page N (i_this_13 11) i_this_13 j_this f_this_page_14 i_this_16 f_this_page_17 hc18 _) (kgV (kq q_1530 rfl) (kq q_1532 rfl) (kq q_50 rfl) (kq q_66 rfl) (kq q_1533 rfl)) yd_X10_writesTwo ⟨Nat.le_of_ble_eq_true rfl, Nat.le_of_ble_eq_true rfl⟩ hN hK hP hD [0, 3] rfl rfl (ci := 9) rfl rfl rfl rfl rfl hl.1 rfl (lv_room (Nat.le_of_ble_eq_true rfl)) dX10_written_62) hP hD hS hA [0, 3] rfl rfl (fun H locs hP hD hS => ?_)
    have hP : va_P (dC, dI) vwCl [cl_X10 h_this h_this_dayAt h_this_secondAt h_this_spans h_this_kept h_this_text h_this_row h_this_read h_this_many h_this_first h_this_lengths h_this_page i_this_16 j_this, (h_this_dayAt, .inl (cI, 8, .inl f_this_dayAt)), (h_this_secondAt, .inl (cI, 8, .inl f_this_secondAt)), (h_this_page, .inl (cB, 128, .inl f_this_page_17))] H := hP
    have hD : va_D A [cl_X10 h_this h_this_dayAt h_this_secondAt h_this_spans h_this_kept h_this_text h_this_row h_this_read h_this_many h_this_first h_this_lengths h_this_page i_this_16 j_this, (h_this_dayAt, .inl (cI, 8, .inl f_this_dayAt)), (h_this_secondAt, .inl (cI, 8, .inl f_this_secondAt)), (h_this_page, .inl (cB, 128, .inl f_this_page_17))] := hD
    refine lv_aload_n hx hb dX10_written_65 rfl (lv_at hl 0 rfl) ?_
    refine lv_bipush (v := (45 : Int32)) hx hb dX10_written_66 (by decide) ?_
    obtain ⟨i_this_19, f_this_page_20, hc21, h⟩ := bd2_at h
    refine kjV (kV (own := "DateSpansModel") (C := "DateSpansModel") (b := h_this) (As := [.int (45 : Int32)]) (rest := []) ⟨hx, hb, hml, hown, hts⟩ (kX10_writes l dC dI cI cJ cB h_this h_this_dayAt h_this_secondAt h_this_spans h_this_kept h_this_text h_this_row h_this_read h_this_many h_this_first h_this_lengths h_this_page N (45 : Int32) i_this_16 j_this f_this_page_17 i_this_19 f_this_page_20 hc21 _) (kgV (kq q_1534 rfl) (kq q_1536 rfl) (kq q_51 rfl) (kq q_66 rfl) (kq q_1537 rfl)) yd_X10_writes ⟨Nat.le_of_ble_eq_true rfl, Nat.le_of_ble_eq_true rfl⟩ hN hK hP hD [0, 3] rfl rfl (ci := 9) rfl rfl rfl rfl rfl hl.1 rfl (lv_room (Nat.le_of_ble_eq_true rfl)) dX10_written_68) hP hD hS hA [0, 3] rfl rfl (fun H locs hP hD hS => ?_)
    have hP : va_P (dC, dI) vwCl [cl_X10 h_this h_this_dayAt h_this_secondAt h_this_spans h_this_kept h_this_text h_this_row h_this_read h_this_many h_this_first h_this_lengths h_this_page i_this_19 j_this, (h_this_dayAt, .inl (cI, 8, .inl f_this_dayAt)), (h_this_secondAt, .inl (cI, 8, .inl f_this_secondAt)), (h_this_page, .inl (cB, 128, .inl f_this_page_20))] H := hP
    have hD : va_D A [cl_X10 h_this h_this_dayAt h_this_secondAt h_this_spans h_this_kept h_this_text h_this_row h_this_read h_this_many h_this_first h_this_lengths h_this_page i_this_19 j_this, (h_this_dayAt, .inl (cI, 8, .inl f_this_dayAt)), (h_this_secondAt, .inl (cI, 8, .inl f_this_secondAt)), (h_this_page, .inl (cB, 128, .inl f_this_page_20))] := hD
    refine lv_aload_n hx hb dX10_written_71 rfl (lv_at hl 0 rfl) ?_
    refine lv_aload_n hx hb dX10_written_72 rfl (lv_at hl 0 rfl) ?_
    refine va_get (D := (dC, dI)) (ci := 9) (v := .int (i_this_19 12)) (C := RX10) (T := TX10) (N := 29) hx hb hts inX10 hown hK hP 0 rfl rfl 12 (by decide) (hts _ (kq q_998 rfl)) (fun _ h9 => h9) rfl dX10_written_73 ?_
    obtain ⟨i_this_22, f_this_page_23, hc24, h⟩ := bd2_at h
    refine kjV (kV (own := "DateSpansModel") (C := "DateSpansModel") (b := h_this) (As := [.int (i_this_19 12)]) (rest := []) ⟨hx, hb, hml, hown, hts⟩ (kX10_writesTwo l dC dI cI cJ cB h_this h_this_dayAt h_this_secondAt h_this_spans h_this_kept h_this_text h_this_row h_this_read h_this_many h_this_first h_this_lengths h_this_page N (i_this_19 12) i_this_19 j_this f_this_page_20 i_this_22 f_this_page_23 hc24 _) (kgV (kq q_1530 rfl) (kq q_1532 rfl) (kq q_50 rfl) (kq q_66 rfl) (kq q_1533 rfl)) yd_X10_writesTwo ⟨Nat.le_of_ble_eq_true rfl, Nat.le_of_ble_eq_true rfl⟩ hN hK hP hD [0, 3] rfl rfl (ci := 9) rfl rfl rfl rfl rfl hl.1 rfl (lv_room (Nat.le_of_ble_eq_true rfl)) dX10_written_76) hP hD hS hA [0, 3] rfl rfl (fun H locs hP hD hS => ?_)
    have hP : va_P (dC, dI) vwCl [cl_X10 h_this h_this_dayAt h_this_secondAt h_this_spans h_this_kept h_this_text h_this_row h_this_read h_this_many h_this_first h_this_lengths h_this_page i_this_22 j_this, (h_this_dayAt, .inl (cI, 8, .inl f_this_dayAt)), (h_this_secondAt, .inl (cI, 8, .inl f_this_secondAt)), (h_this_page, .inl (cB, 128, .inl f_this_page_23))] H := hP
    have hD : va_D A [cl_X10 h_this h_this_dayAt h_this_secondAt h_this_spans h_this_kept h_this_text h_this_row h_this_read h_this_many h_this_first h_this_lengths h_this_page i_this_22 j_this, (h_this_dayAt, .inl (cI, 8, .inl f_this_dayAt)), (h_this_secondAt, .inl (cI, 8, .inl f_this_secondAt)), (h_this_page, .inl (cB, 128, .inl f_this_page_23))] := hD
    refine lv_aload_n hx hb dX10_written_79 rfl (lv_at hl 0 rfl) ?_
    refine va_get (D := (dC, dI)) (ci := 9) (v := .ref h_this_secondAt) (C := RX10) (T := TX10) (N := 29) hx hb hts inX10 hown hK hP 0 rfl rfl 1 (by decide) (hts _ (kq q_987 rfl)) (fun _ h9 => h9) rfl dX10_written_80 ?_
    refine lv_iload_n hx hb dX10_written_83 rfl (lv_at hl 1 rfl) ?_
    obtain ⟨hi25, h⟩ := gi_at h
    refine va_iald hx hb hK hP 2 0 rfl rfl hi25 dX10_written_84 ?_
    refine lv_if_le (tgt := 149) hx hb dX10_written_85 (by decide) (fun c26 => ?_) (fun c26 => ?_)
    · have h := ite_t c26 h
      refine lv_aload_n hx hb dX10_written_149 rfl (lv_at hl 0 rfl) ?_
      refine lv_iload_n hx hb dX10_written_150 rfl (lv_at hl 2 rfl) ?_
      obtain ⟨r27, hc28, h⟩ := bd1_at h
      refine kjI (kV (own := "DateSpansModel") (C := "DateSpansModel") (b := h_this) (As := [.int p2]) (rest := []) ⟨hx, hb, hml, hown, hts⟩ (kX10_signOf l dC dI cI cJ cB h_this h_this_dayAt h_this_secondAt h_this_spans h_this_kept h_this_text h_this_row h_this_read h_this_many h_this_first h_this_lengths h_this_page N p2 i_this_22 j_this f_this_page_23 r27 hc28 _) (kgV (kq q_1538 rfl) (kq q_1540 rfl) (kq q_52 rfl) (kq q_66 rfl) (kq q_1541 rfl)) yd_X10_signOf ⟨Nat.le_of_ble_eq_true rfl, Nat.le_of_ble_eq_true rfl⟩ hN hK hP hD [0, 3] rfl rfl (ci := 9) rfl rfl rfl rfl rfl hl.1 rfl (lv_room (Nat.le_of_ble_eq_true rfl)) dX10_written_151) hP hD hS hA [0, 3] rfl rfl (fun H locs hP hD hS => ?_)
      have hP : va_P (dC, dI) vwCl [cl_X10 h_this h_this_dayAt h_this_secondAt h_this_spans h_this_kept h_this_text h_this_row h_this_read h_this_many h_this_first h_this_lengths h_this_page i_this_22 j_this, (h_this_dayAt, .inl (cI, 8, .inl f_this_dayAt)), (h_this_secondAt, .inl (cI, 8, .inl f_this_secondAt)), (h_this_page, .inl (cB, 128, .inl f_this_page_23))] H := hP
      have hD : va_D A [cl_X10 h_this h_this_dayAt h_this_secondAt h_this_spans h_this_kept h_this_text h_this_row h_this_read h_this_many h_this_first h_this_lengths h_this_page i_this_22 j_this, (h_this_dayAt, .inl (cI, 8, .inl f_this_dayAt)), (h_this_secondAt, .inl (cI, 8, .inl f_this_secondAt)), (h_this_page, .inl (cB, 128, .inl f_this_page_23))] := hD
      obtain ⟨rfl, rfl, rfl⟩ := pj3 h
      exact hEnd _ _ _ _ hP hS dX10_written_154 rfl
    have h := ite_f c26 h
    refine lv_aload_n hx hb dX10_written_88 rfl (lv_at hl 0 rfl) ?_
    refine lv_bipush (v := (84 : Int32)) hx hb dX10_written_89 (by decide) ?_
    obtain ⟨i_this_29, f_this_page_30, hc31, h⟩ := bd2_at h
    refine kjV (kV (own := "DateSpansModel") (C := "DateSpansModel") (b := h_this) (As := [.int (84 : Int32)]) (rest := []) ⟨hx, hb, hml, hown, hts⟩ (kX10_writes l dC dI cI cJ cB h_this h_this_dayAt h_this_secondAt h_this_spans h_this_kept h_this_text h_this_row h_this_read h_this_many h_this_first h_this_lengths h_this_page N (84 : Int32) i_this_22 j_this f_this_page_23 i_this_29 f_this_page_30 hc31 _) (kgV (kq q_1534 rfl) (kq q_1536 rfl) (kq q_51 rfl) (kq q_66 rfl) (kq q_1537 rfl)) yd_X10_writes ⟨Nat.le_of_ble_eq_true rfl, Nat.le_of_ble_eq_true rfl⟩ hN hK hP hD [0, 3] rfl rfl (ci := 9) rfl rfl rfl rfl rfl hl.1 rfl (lv_room (Nat.le_of_ble_eq_true rfl)) dX10_written_91) hP hD hS hA [0, 3] rfl rfl (fun H locs hP hD hS => ?_)
    have hP : va_P (dC, dI) vwCl [cl_X10 h_this h_this_dayAt h_this_secondAt h_this_spans h_this_kept h_this_text h_this_row h_this_read h_this_many h_this_first h_this_lengths h_this_page i_this_29 j_this, (h_this_dayAt, .inl (cI, 8, .inl f_this_dayAt)), (h_this_secondAt, .inl (cI, 8, .inl f_this_secondAt)), (h_this_page, .inl (cB, 128, .inl f_this_page_30))] H := hP
    have hD : va_D A [cl_X10 h_this h_this_dayAt h_this_secondAt h_this_spans h_this_kept h_this_text h_this_row h_this_read h_this_many h_this_first h_this_lengths h_this_page i_this_29 j_this, (h_this_dayAt, .inl (cI, 8, .inl f_this_dayAt)), (h_this_secondAt, .inl (cI, 8, .inl f_this_secondAt)), (h_this_page, .inl (cB, 128, .inl f_this_page_30))] := hD
    refine lv_aload_n hx hb dX10_written_94 rfl (lv_at hl 0 rfl) ?_
    refine lv_aload_n hx hb dX10_written_95 rfl (lv_at hl 0 rfl) ?_
    refine va_get (D := (dC, dI)) (ci := 9) (v := .ref h_this_secondAt) (C := RX10) (T := TX10) (N := 29) hx hb hts inX10 hown hK hP 0 rfl rfl 1 (by decide) (hts _ (kq q_987 rfl)) (fun _ h9 => h9) rfl dX10_written_96 ?_
    refine lv_iload_n hx hb dX10_written_99 rfl (lv_at hl 1 rfl) ?_
    obtain ⟨hi32, h⟩ := gi_at h
    refine va_iald hx hb hK hP 2 0 rfl rfl hi32 dX10_written_100 ?_
    refine lv_sipush (v := (3600 : Int32)) hx hb dX10_written_101 (by decide) ?_
    refine lv_idiv hx hb dX10_written_104 (by decide) ?_
    obtain ⟨i_this_33, f_this_page_34, hc35, h⟩ := bd2_at h
    refine kjV (kV (own := "DateSpansModel") (C := "DateSpansModel") (b := h_this) (As := [.int ((f_this_secondAt p1.toNatClampNeg) / (3600 : Int32))]) (rest := []) ⟨hx, hb, hml, hown, hts⟩ (kX10_writesTwo l dC dI cI cJ cB h_this h_this_dayAt h_this_secondAt h_this_spans h_this_kept h_this_text h_this_row h_this_read h_this_many h_this_first h_this_lengths h_this_page N ((f_this_secondAt p1.toNatClampNeg) / (3600 : Int32)) i_this_29 j_this f_this_page_30 i_this_33 f_this_page_34 hc35 _) (kgV (kq q_1530 rfl) (kq q_1532 rfl) (kq q_50 rfl) (kq q_66 rfl) (kq q_1533 rfl)) yd_X10_writesTwo ⟨Nat.le_of_ble_eq_true rfl, Nat.le_of_ble_eq_true rfl⟩ hN hK hP hD [0, 3] rfl rfl (ci := 9) rfl rfl rfl rfl rfl hl.1 rfl (lv_room (Nat.le_of_ble_eq_true rfl)) dX10_written_105) hP hD hS hA [0, 3] rfl rfl (fun H locs hP hD hS => ?_)
    have hP : va_P (dC, dI) vwCl [cl_X10 h_this h_this_dayAt h_this_secondAt h_this_spans h_this_kept h_this_text h_this_row h_this_read h_this_many h_this_first h_this_lengths h_this_page i_this_33 j_this, (h_this_dayAt, .inl (cI, 8, .inl f_this_dayAt)), (h_this_secondAt, .inl (cI, 8, .inl f_this_secondAt)), (h_this_page, .inl (cB, 128, .inl f_this_page_34))] H := hP
    have hD : va_D A [cl_X10 h_this h_this_dayAt h_this_secondAt h_this_spans h_this_kept h_this_text h_this_row h_this_read h_this_many h_this_first h_this_lengths h_this_page i_this_33 j_this, (h_this_dayAt, .inl (cI, 8, .inl f_this_dayAt)), (h_this_secondAt, .inl (cI, 8, .inl f_this_secondAt)), (h_this_page, .inl (cB, 128, .inl f_this_page_34))] := hD
    refine lv_aload_n hx hb dX10_written_108 rfl (lv_at hl 0 rfl) ?_
    refine lv_bipush (v := (58 : Int32)) hx hb dX10_written_109 (by decide) ?_
    obtain ⟨i_this_36, f_this_page_37, hc38, h⟩ := bd2_at h
    refine kjV (kV (own := "DateSpansModel") (C := "DateSpansModel") (b := h_this) (As := [.int (58 : Int32)]) (rest := []) ⟨hx, hb, hml, hown, hts⟩ (kX10_writes l dC dI cI cJ cB h_this h_this_dayAt h_this_secondAt h_this_spans h_this_kept h_this_text h_this_row h_this_read h_this_many h_this_first h_this_lengths h_this_page N (58 : Int32) i_this_33 j_this f_this_page_34 i_this_36 f_this_page_37 hc38 _) (kgV (kq q_1534 rfl) (kq q_1536 rfl) (kq q_51 rfl) (kq q_66 rfl) (kq q_1537 rfl)) yd_X10_writes ⟨Nat.le_of_ble_eq_true rfl, Nat.le_of_ble_eq_true rfl⟩ hN hK hP hD [0, 3] rfl rfl (ci := 9) rfl rfl rfl rfl rfl hl.1 rfl (lv_room (Nat.le_of_ble_eq_true rfl)) dX10_written_111) hP hD hS hA [0, 3] rfl rfl (fun H locs hP hD hS => ?_)
    have hP : va_P (dC, dI) vwCl [cl_X10 h_this h_this_dayAt h_this_secondAt h_this_spans h_this_kept h_this_text h_this_row h_this_read h_this_many h_this_first h_this_lengths h_this_page i_this_36 j_this, (h_this_dayAt, .inl (cI, 8, .inl f_this_dayAt)), (h_this_secondAt, .inl (cI, 8, .inl f_this_secondAt)), (h_this_page, .inl (cB, 128, .inl f_this_page_37))] H := hP
    have hD : va_D A [cl_X10 h_this h_this_dayAt h_this_secondAt h_this_spans h_this_kept h_this_text h_this_row h_this_read h_this_many h_this_first h_this_lengths h_this_page i_this_36 j_this, (h_this_dayAt, .inl (cI, 8, .inl f_this_dayAt)), (h_this_secondAt, .inl (cI, 8, .inl f_this_secondAt)), (h_this_page, .inl (cB, 128, .inl f_this_page_37))] := hD
    refine lv_aload_n hx hb dX10_written_114 rfl (lv_at hl 0 rfl) ?_
    refine lv_aload_n hx hb dX10_written_115 rfl (lv_at hl 0 rfl) ?_
    refine va_get (D := (dC, dI)) (ci := 9) (v := .ref h_this_secondAt) (C := RX10) (T := TX10) (N := 29) hx hb hts inX10 hown hK hP 0 rfl rfl 1 (by decide) (hts _ (kq q_987 rfl)) (fun _ h9 => h9) rfl dX10_written_116 ?_
    refine lv_iload_n hx hb dX10_written_119 rfl (lv_at hl 1 rfl) ?_
    obtain ⟨hi39, h⟩ := gi_at h
    refine va_iald hx hb hK hP 2 0 rfl rfl hi39 dX10_written_120 ?_
    refine lv_bipush (v := (60 : Int32)) hx hb dX10_written_121 (by decide) ?_
    refine lv_idiv hx hb dX10_written_123 (by decide) ?_
    refine lv_bipush (v := (60 : Int32)) hx hb dX10_written_124 (by decide) ?_
    refine lv_irem hx hb dX10_written_126 (by decide) ?_
    obtain ⟨i_this_40, f_this_page_41, hc42, h⟩ := bd2_at h
    refine kjV (kV (own := "DateSpansModel") (C := "DateSpansModel") (b := h_this) (As := [.int (((f_this_secondAt p1.toNatClampNeg) / (60 : Int32)) - ((f_this_secondAt p1.toNatClampNeg) / (60 : Int32)) / (60 : Int32) * (60 : Int32))]) (rest := []) ⟨hx, hb, hml, hown, hts⟩ (kX10_writesTwo l dC dI cI cJ cB h_this h_this_dayAt h_this_secondAt h_this_spans h_this_kept h_this_text h_this_row h_this_read h_this_many h_this_first h_this_lengths h_this_page N (((f_this_secondAt p1.toNatClampNeg) / (60 : Int32)) - ((f_this_secondAt p1.toNatClampNeg) / (60 : Int32)) / (60 : Int32) * (60 : Int32)) i_this_36 j_this f_this_page_37 i_this_40 f_this_page_41 hc42 _) (kgV (kq q_1530 rfl) (kq q_1532 rfl) (kq q_50 rfl) (kq q_66 rfl) (kq q_1533 rfl)) yd_X10_writesTwo ⟨Nat.le_of_ble_eq_true rfl, Nat.le_of_ble_eq_true rfl⟩ hN hK hP hD [0, 3] rfl rfl (ci := 9) rfl rfl rfl rfl rfl hl.1 rfl (lv_room (Nat.le_of_ble_eq_true rfl)) dX10_written_127) hP hD hS hA [0, 3] rfl rfl (fun H locs hP hD hS => ?_)
    have hP : va_P (dC, dI) vwCl [cl_X10 h_this h_this_dayAt h_this_secondAt h_this_spans h_this_kept h_this_text h_this_row h_this_read h_this_many h_this_first h_this_lengths h_this_page i_this_40 j_this, (h_this_dayAt, .inl (cI, 8, .inl f_this_dayAt)), (h_this_secondAt, .inl (cI, 8, .inl f_this_secondAt)), (h_this_page, .inl (cB, 128, .inl f_this_page_41))] H := hP
    have hD : va_D A [cl_X10 h_this h_this_dayAt h_this_secondAt h_this_spans h_this_kept h_this_text h_this_row h_this_read h_this_many h_this_first h_this_lengths h_this_page i_this_40 j_this, (h_this_dayAt, .inl (cI, 8, .inl f_this_dayAt)), (h_this_secondAt, .inl (cI, 8, .inl f_this_secondAt)), (h_this_page, .inl (cB, 128, .inl f_this_page_41))] := hD
    refine lv_aload_n hx hb dX10_written_130 rfl (lv_at hl 0 rfl) ?_
    refine lv_bipush (v := (58 : Int32)) hx hb dX10_written_131 (by decide) ?_
    obtain ⟨i_this_43, f_this_page_44, hc45, h⟩ := bd2_at h
    refine kjV (kV (own := "DateSpansModel") (C := "DateSpansModel") (b := h_this) (As := [.int (58 : Int32)]) (rest := []) ⟨hx, hb, hml, hown, hts⟩ (kX10_writes l dC dI cI cJ cB h_this h_this_dayAt h_this_secondAt h_this_spans h_this_kept h_this_text h_this_row h_this_read h_this_many h_this_first h_this_lengths h_this_page N (58 : Int32) i_this_40 j_this f_this_page_41 i_this_43 f_this_page_44 hc45 _) (kgV (kq q_1534 rfl) (kq q_1536 rfl) (kq q_51 rfl) (kq q_66 rfl) (kq q_1537 rfl)) yd_X10_writes ⟨Nat.le_of_ble_eq_true rfl, Nat.le_of_ble_eq_true rfl⟩ hN hK hP hD [0, 3] rfl rfl (ci := 9) rfl rfl rfl rfl rfl hl.1 rfl (lv_room (Nat.le_of_ble_eq_true rfl)) dX10_written_133) hP hD hS hA [0, 3] rfl rfl (fun H locs hP hD hS => ?_)
    have hP : va_P (dC, dI) vwCl [cl_X10 h_this h_this_dayAt h_this_secondAt h_this_spans h_this_kept h_this_text h_this_row h_this_read h_this_many h_this_first h_this_lengths h_this_page i_this_43 j_this, (h_this_dayAt, .inl (cI, 8, .inl f_this_dayAt)), (h_this_secondAt, .inl (cI, 8, .inl f_this_secondAt)), (h_this_page, .inl (cB, 128, .inl f_this_page_44))] H := hP
    have hD : va_D A [cl_X10 h_this h_this_dayAt h_this_secondAt h_this_spans h_this_kept h_this_text h_this_row h_this_read h_this_many h_this_first h_this_lengths h_this_page i_this_43 j_this, (h_this_dayAt, .inl (cI, 8, .inl f_this_dayAt)), (h_this_secondAt, .inl (cI, 8, .inl f_this_secondAt)), (h_this_page, .inl (cB, 128, .inl f_this_page_44))] := hD
    refine lv_aload_n hx hb dX10_written_136 rfl (lv_at hl 0 rfl) ?_
    refine lv_aload_n hx hb dX10_written_137 rfl (lv_at hl 0 rfl) ?_
    refine va_get (D := (dC, dI)) (ci := 9) (v := .ref h_this_secondAt) (C := RX10) (T := TX10) (N := 29) hx hb hts inX10 hown hK hP 0 rfl rfl 1 (by decide) (hts _ (kq q_987 rfl)) (fun _ h9 => h9) rfl dX10_written_138 ?_
    refine lv_iload_n hx hb dX10_written_141 rfl (lv_at hl 1 rfl) ?_
    obtain ⟨hi46, h⟩ := gi_at h
    refine va_iald hx hb hK hP 2 0 rfl rfl hi46 dX10_written_142 ?_
    refine lv_bipush (v := (60 : Int32)) hx hb dX10_written_143 (by decide) ?_
    refine lv_irem hx hb dX10_written_145 (by decide) ?_
    obtain ⟨i_this_47, f_this_page_48, hc49, h⟩ := bd2_at h
    refine kjV (kV (own := "DateSpansModel") (C := "DateSpansModel") (b := h_this) (As := [.int ((f_this_secondAt p1.toNatClampNeg) - (f_this_secondAt p1.toNatClampNeg) / (60 : Int32) * (60 : Int32))]) (rest := []) ⟨hx, hb, hml, hown, hts⟩ (kX10_writesTwo l dC dI cI cJ cB h_this h_this_dayAt h_this_secondAt h_this_spans h_this_kept h_this_text h_this_row h_this_read h_this_many h_this_first h_this_lengths h_this_page N ((f_this_secondAt p1.toNatClampNeg) - (f_this_secondAt p1.toNatClampNeg) / (60 : Int32) * (60 : Int32)) i_this_43 j_this f_this_page_44 i_this_47 f_this_page_48 hc49 _) (kgV (kq q_1530 rfl) (kq q_1532 rfl) (kq q_50 rfl) (kq q_66 rfl) (kq q_1533 rfl)) yd_X10_writesTwo ⟨Nat.le_of_ble_eq_true rfl, Nat.le_of_ble_eq_true rfl⟩ hN hK hP hD [0, 3] rfl rfl (ci := 9) rfl rfl rfl rfl rfl hl.1 rfl (lv_room (Nat.le_of_ble_eq_true rfl)) dX10_written_146) hP hD hS hA [0, 3] rfl rfl (fun H locs hP hD hS => ?_)
    have hP : va_P (dC, dI) vwCl [cl_X10 h_this h_this_dayAt h_this_secondAt h_this_spans h_this_kept h_this_text h_this_row h_this_read h_this_many h_this_first h_this_lengths h_this_page i_this_47 j_this, (h_this_dayAt, .inl (cI, 8, .inl f_this_dayAt)), (h_this_secondAt, .inl (cI, 8, .inl f_this_secondAt)), (h_this_page, .inl (cB, 128, .inl f_this_page_48))] H := hP
    have hD : va_D A [cl_X10 h_this h_this_dayAt h_this_secondAt h_this_spans h_this_kept h_this_text h_this_row h_this_read h_this_many h_this_first h_this_lengths h_this_page i_this_47 j_this, (h_this_dayAt, .inl (cI, 8, .inl f_this_dayAt)), (h_this_secondAt, .inl (cI, 8, .inl f_this_secondAt)), (h_this_page, .inl (cB, 128, .inl f_this_page_48))] := hD
    refine lv_aload_n hx hb dX10_written_149 rfl (lv_at hl 0 rfl) ?_
    refine lv_iload_n hx hb dX10_written_150 rfl (lv_at hl 2 rfl) ?_
    obtain ⟨r50, hc51, h⟩ := bd1_at h
    refine kjI (kV (own := "DateSpansModel") (C := "DateSpansModel") (b := h_this) (As := [.int p2]) (rest := []) ⟨hx, hb, hml, hown, hts⟩ (kX10_signOf l dC dI cI cJ cB h_this h_this_dayAt h_this_secondAt h_this_spans h_this_kept h_this_text h_this_row h_this_read h_this_many h_this_first h_this_lengths h_this_page N p2 i_this_47 j_this f_this_page_48 r50 hc51 _) (kgV (kq q_1538 rfl) (kq q_1540 rfl) (kq q_52 rfl) (kq q_66 rfl) (kq q_1541 rfl)) yd_X10_signOf ⟨Nat.le_of_ble_eq_true rfl, Nat.le_of_ble_eq_true rfl⟩ hN hK hP hD [0, 3] rfl rfl (ci := 9) rfl rfl rfl rfl rfl hl.1 rfl (lv_room (Nat.le_of_ble_eq_true rfl)) dX10_written_151) hP hD hS hA [0, 3] rfl rfl (fun H locs hP hD hS => ?_)
    have hP : va_P (dC, dI) vwCl [cl_X10 h_this h_this_dayAt h_this_secondAt h_this_spans h_this_kept h_this_text h_this_row h_this_read h_this_many h_this_first h_this_lengths h_this_page i_this_47 j_this, (h_this_dayAt, .inl (cI, 8, .inl f_this_dayAt)), (h_this_secondAt, .inl (cI, 8, .inl f_this_secondAt)), (h_this_page, .inl (cB, 128, .inl f_this_page_48))] H := hP
    have hD : va_D A [cl_X10 h_this h_this_dayAt h_this_secondAt h_this_spans h_this_kept h_this_text h_this_row h_this_read h_this_many h_this_first h_this_lengths h_this_page i_this_47 j_this, (h_this_dayAt, .inl (cI, 8, .inl f_this_dayAt)), (h_this_secondAt, .inl (cI, 8, .inl f_this_secondAt)), (h_this_page, .inl (cB, 128, .inl f_this_page_48))] := hD
    obtain ⟨rfl, rfl, rfl⟩ := pj3 h
    exact hEnd _ _ _ _ hP hS dX10_written_154 rfl
  have h := ite_t c3 h
  refine lv_iconst (v := (-1 : Int32)) hx hb dX10_written_12 (by decide) ?_
  obtain ⟨rfl, rfl, rfl⟩ := pj3 h
  exact hEnd _ _ _ _ hP hS dX10_written_13 rfl
noncomputable def fX10_valueOf (N : Nat) (p1 : Int32) (p2 : Int32) (i_this : Nat → Int32) (j_this : Nat → Int64) (f_this_spans : Nat → Int32) : Option (Int32) := (bd1 (fX10_partOf N p2) fun r1 => (gi (((3 : Int32) * p1) + r1) 24 (nm (f_this_spans (((3 : Int32) * p1) + r1).toNatClampNeg) fun z4 => (if p2 = (0 : Int32) then (some (z4 / (12 : Int32))) else (if p2 = (1 : Int32) then (some (z4 - z4 / (12 : Int32) * (12 : Int32))) else (if p2 = (2 : Int32) then (some (z4 / (7 : Int32))) else (if p2 = (3 : Int32) then (some (z4 - z4 / (7 : Int32) * (7 : Int32))) else (if p2 = (4 : Int32) then (some (z4 / (3600 : Int32))) else (if p2 = (5 : Int32) then (some ((z4 / (60 : Int32)) - (z4 / (60 : Int32)) / (60 : Int32) * (60 : Int32))) else (some (z4 - z4 / (60 : Int32) * (60 : Int32))))))))))))
set_option maxHeartbeats 4000000 in
set_option maxRecDepth 100000 in
theorem kX10_valueOf (l : Launch) (dC : Nat → ClassId) (dI : Nat → Nat → Nat) (cI cJ cB : ClassId) (h_this h_this_dayAt h_this_secondAt h_this_spans h_this_kept h_this_text h_this_row h_this_read h_this_many h_this_first h_this_lengths h_this_page : Nat) (N : Nat) (p1 : Int32) (p2 : Int32) (i_this : Nat → Int32) (j_this : Nat → Int64) (f_this_spans : Nat → Int32) (r : Int32) (hf : fX10_valueOf N p1 p2 i_this j_this f_this_spans = some r) : MI l yX10_valueOf (kws yX10_valueOf cX10_valueOf 4 (some .int)) (kR 1 20) (dC, dI) (kT cI cJ cB) [.ref h_this, .int p1, .int p2] [cl_X10 h_this h_this_dayAt h_this_secondAt h_this_spans h_this_kept h_this_text h_this_row h_this_read h_this_many h_this_first h_this_lengths h_this_page i_this j_this, (h_this_spans, .inl (cI, 24, .inl f_this_spans))] [cl_X10 h_this h_this_dayAt h_this_secondAt h_this_spans h_this_kept h_this_text h_this_row h_this_read h_this_many h_this_first h_this_lengths h_this_page i_this j_this, (h_this_spans, .inl (cI, 24, .inl f_this_spans))] r := by
  refine MI.of (cc := cX10_valueOf) (maxL := 4) (by decide) (Nat.le_of_ble_eq_true rfl) (fun p e s m args below meth c A Q ls KC hN hK hP hD hA hl hEnd => ?_)
  obtain ⟨hx, hb, hml, hown, hts⟩ := KC
  have hown : s.vm.findClass "DateSpansModel" = some m.cls := hown
  have hl : lv_has ls 4 [(0, .ref h_this), (1, .int p1), (2, .int p2)] := hl
  have hS : va_S A s.heap s.heap [] := va_S.rf
  have h := hf
  unfold fX10_valueOf at h
  refine lv_aload_n hx hb dX10_valueOf_0 rfl (lv_at hl 0 rfl) ?_
  refine va_get (D := (dC, dI)) (ci := 9) (v := .ref h_this_spans) (C := RX10) (T := TX10) (N := 29) hx hb hts inX10 hown hK hP 0 rfl rfl 2 (by decide) (hts _ (kq q_988 rfl)) (fun _ h9 => h9) rfl dX10_valueOf_1 ?_
  refine lv_iconst (v := (3 : Int32)) hx hb dX10_valueOf_4 (by decide) ?_
  refine lv_iload_n hx hb dX10_valueOf_5 rfl (lv_at hl 1 rfl) ?_
  refine lv_imul hx hb dX10_valueOf_6 ?_
  refine lv_iload_n hx hb dX10_valueOf_7 rfl (lv_at hl 2 rfl) ?_
  obtain ⟨r1, hc2, h⟩ := bd1_at h
  refine kjSI (kS0 (own := "DateSpansModel") (As := [.int p2]) (rest := [.int ((3 : Int32) * p1), .ref h_this_spans]) ⟨hx, hb, hml, hown, hts⟩ (kX10_partOf l N p2 r1 hc2) (kgS (kq q_1207 rfl) (kq q_1208 rfl) (kq q_66 rfl) (kq q_1209 rfl)) yd_X10_partOf ⟨Nat.le_of_ble_eq_true rfl, Nat.le_of_ble_eq_true rfl⟩ rfl rfl hl.1 rfl (lv_room (Nat.le_of_ble_eq_true rfl)) dX10_valueOf_8) ?_
  refine lv_iadd hx hb dX10_valueOf_11 ?_
  obtain ⟨hi3, h⟩ := gi_at h
  refine va_iald hx hb hK hP 1 0 rfl rfl hi3 dX10_valueOf_12 ?_
  refine lv_topi (fun z4 ez4 => ?_)
  have h := nm_at ez4 h
  refine lv_istore_n (lv' := [(3, .int z4), (0, .ref h_this), (1, .int p1), (2, .int p2)]) hx hb dX10_valueOf_13 rfl hl (by decide) rfl (fun ls hl => ?_)
  refine lv_iload_n hx hb dX10_valueOf_14 rfl (lv_at hl 3 rfl) ?_
  by_cases c5 : p2 = (0 : Int32)
  · have h := ite_t c5 h
    refine lv_tableIn (x := p2) (tgt := 52) hx hb dX10_valueOf_15 (by rw [c5]; decide) (by rw [c5]; decide) (by rw [c5]; rfl) (by decide) ?_
    refine lv_iload_n hx hb dX10_valueOf_52 rfl (lv_at hl 0 rfl) ?_
    refine lv_bipush (v := (12 : Int32)) hx hb dX10_valueOf_53 (by decide) ?_
    refine lv_idiv hx hb dX10_valueOf_55 (by decide) ?_
    obtain rfl := pj1 h
    exact hEnd _ _ _ _ hP hS dX10_valueOf_56 rfl
  have h := ite_f c5 h
  by_cases c6 : p2 = (1 : Int32)
  · have h := ite_t c6 h
    refine lv_tableIn (x := p2) (tgt := 57) hx hb dX10_valueOf_15 (by rw [c6]; decide) (by rw [c6]; decide) (by rw [c6]; rfl) (by decide) ?_
    refine lv_iload_n hx hb dX10_valueOf_57 rfl (lv_at hl 0 rfl) ?_
    refine lv_bipush (v := (12 : Int32)) hx hb dX10_valueOf_58 (by decide) ?_
    refine lv_irem hx hb dX10_valueOf_60 (by decide) ?_
    obtain rfl := pj1 h
    exact hEnd _ _ _ _ hP hS dX10_valueOf_61 rfl
  have h := ite_f c6 h
  by_cases c7 : p2 = (2 : Int32)
  · have h := ite_t c7 h
    refine lv_tableIn (x := p2) (tgt := 62) hx hb dX10_valueOf_15 (by rw [c7]; decide) (by rw [c7]; decide) (by rw [c7]; rfl) (by decide) ?_
    refine lv_iload_n hx hb dX10_valueOf_62 rfl (lv_at hl 0 rfl) ?_
    refine lv_bipush (v := (7 : Int32)) hx hb dX10_valueOf_63 (by decide) ?_
    refine lv_idiv hx hb dX10_valueOf_65 (by decide) ?_
    obtain rfl := pj1 h
    exact hEnd _ _ _ _ hP hS dX10_valueOf_66 rfl
  have h := ite_f c7 h
  by_cases c8 : p2 = (3 : Int32)
  · have h := ite_t c8 h
    refine lv_tableIn (x := p2) (tgt := 67) hx hb dX10_valueOf_15 (by rw [c8]; decide) (by rw [c8]; decide) (by rw [c8]; rfl) (by decide) ?_
    refine lv_iload_n hx hb dX10_valueOf_67 rfl (lv_at hl 0 rfl) ?_
    refine lv_bipush (v := (7 : Int32)) hx hb dX10_valueOf_68 (by decide) ?_
    refine lv_irem hx hb dX10_valueOf_70 (by decide) ?_
    obtain rfl := pj1 h
    exact hEnd _ _ _ _ hP hS dX10_valueOf_71 rfl
  have h := ite_f c8 h
  by_cases c9 : p2 = (4 : Int32)
  · have h := ite_t c9 h
    refine lv_tableIn (x := p2) (tgt := 72) hx hb dX10_valueOf_15 (by rw [c9]; decide) (by rw [c9]; decide) (by rw [c9]; rfl) (by decide) ?_
    refine lv_iload_n hx hb dX10_valueOf_72 rfl (lv_at hl 0 rfl) ?_
    refine lv_sipush (v := (3600 : Int32)) hx hb dX10_valueOf_73 (by decide) ?_
    refine lv_idiv hx hb dX10_valueOf_76 (by decide) ?_
    obtain rfl := pj1 h
    exact hEnd _ _ _ _ hP hS dX10_valueOf_77 rfl
  have h := ite_f c9 h
  by_cases c10 : p2 = (5 : Int32)
  · have h := ite_t c10 h
    refine lv_tableIn (x := p2) (tgt := 78) hx hb dX10_valueOf_15 (by rw [c10]; decide) (by rw [c10]; decide) (by rw [c10]; rfl) (by decide) ?_
    refine lv_iload_n hx hb dX10_valueOf_78 rfl (lv_at hl 0 rfl) ?_
    refine lv_bipush (v := (60 : Int32)) hx hb dX10_valueOf_79 (by decide) ?_
    refine lv_idiv hx hb dX10_valueOf_81 (by decide) ?_
    refine lv_bipush (v := (60 : Int32)) hx hb dX10_valueOf_82 (by decide) ?_
    refine lv_irem hx hb dX10_valueOf_84 (by decide) ?_
    obtain rfl := pj1 h
    exact hEnd _ _ _ _ hP hS dX10_valueOf_85 rfl
  have h := ite_f c10 h
  have gc5 := kne (k := 0) (by decide) c5
  have gc6 := kne (k := 1) (by decide) c6
  have gc7 := kne (k := 2) (by decide) c7
  have gc8 := kne (k := 3) (by decide) c8
  have gc9 := kne (k := 4) (by decide) c9
  have gc10 := kne (k := 5) (by decide) c10
  refine lv_tableOut (x := p2) (tgt := 86) hx hb dX10_valueOf_15 (by omega) (by decide) ?_
  refine lv_iload_n hx hb dX10_valueOf_86 rfl (lv_at hl 0 rfl) ?_
  refine lv_bipush (v := (60 : Int32)) hx hb dX10_valueOf_87 (by decide) ?_
  refine lv_irem hx hb dX10_valueOf_89 (by decide) ?_
  obtain rfl := pj1 h
  exact hEnd _ _ _ _ hP hS dX10_valueOf_90 rfl
noncomputable def fX10_keeps_l48 (N : Nat) (j_this : Nat → Int64) (f_this_dayAt : Nat → Int32) (f_this_secondAt : Nat → Int32) (f_this_spans : Nat → Int32) (n : Nat) : Int32 → (Nat → Int32) → (Nat → Int32) → Option (Int32 × (Nat → Int32) × (Nat → Int32)) := Nat.rec (motive := fun _ => Int32 → (Nat → Int32) → (Nat → Int32) → Option (Int32 × (Nat → Int32) × (Nat → Int32))) (fun _ _ _ => none) (fun _ K_48 v1 i_this f_this_kept => (if (24 : Int32) ≤ v1 then (some ((1 : Int32), (upd i_this 4 (1 : Int32)), f_this_kept)) else (gi v1 24 (gi ((16 : Int32) + v1) 40 (nm (v1 + (1 : Int32)) fun z4 => (K_48 z4 i_this (upd f_this_kept ((16 : Int32) + v1).toNatClampNeg (f_this_spans v1.toNatClampNeg)))))))) n
theorem fX10_keeps_l48_s (N : Nat) (j_this : Nat → Int64) (f_this_dayAt : Nat → Int32) (f_this_secondAt : Nat → Int32) (f_this_spans : Nat → Int32) (n : Nat) (v1 : Int32) (i_this : Nat → Int32) (f_this_kept : Nat → Int32) : fX10_keeps_l48 N j_this f_this_dayAt f_this_secondAt f_this_spans (n + 1) v1 i_this f_this_kept = (if (24 : Int32) ≤ v1 then (some ((1 : Int32), (upd i_this 4 (1 : Int32)), f_this_kept)) else (gi v1 24 (gi ((16 : Int32) + v1) 40 (nm (v1 + (1 : Int32)) fun z4 => ((fX10_keeps_l48 N j_this f_this_dayAt f_this_secondAt f_this_spans n) z4 i_this (upd f_this_kept ((16 : Int32) + v1).toNatClampNeg (f_this_spans v1.toNatClampNeg))))))) := rfl
theorem fX10_keeps_l48_0 (N : Nat) (j_this : Nat → Int64) (f_this_dayAt : Nat → Int32) (f_this_secondAt : Nat → Int32) (f_this_spans : Nat → Int32) (v1 : Int32) (i_this : Nat → Int32) (f_this_kept : Nat → Int32) : fX10_keeps_l48 N j_this f_this_dayAt f_this_secondAt f_this_spans 0 v1 i_this f_this_kept = none := rfl
noncomputable def fX10_keeps_l7 (N : Nat) (j_this : Nat → Int64) (f_this_dayAt : Nat → Int32) (f_this_secondAt : Nat → Int32) (f_this_spans : Nat → Int32) (n : Nat) : Int32 → (Nat → Int32) → (Nat → Int32) → Option (Int32 × (Nat → Int32) × (Nat → Int32)) := Nat.rec (motive := fun _ => Int32 → (Nat → Int32) → (Nat → Int32) → Option (Int32 × (Nat → Int32) × (Nat → Int32))) (fun _ _ _ => none) (fun _ K_7 v1 i_this f_this_kept => (if (8 : Int32) ≤ v1 then (fX10_keeps_l48 N j_this f_this_dayAt f_this_secondAt f_this_spans N (0 : Int32) i_this f_this_kept) else (gi v1 8 (gi v1 40 (gi v1 8 (gi ((8 : Int32) + v1) 40 (nm (v1 + (1 : Int32)) fun z10 => (K_7 z10 i_this (upd (upd f_this_kept v1.toNatClampNeg (f_this_dayAt v1.toNatClampNeg)) ((8 : Int32) + v1).toNatClampNeg (f_this_secondAt v1.toNatClampNeg)))))))))) n
theorem fX10_keeps_l7_s (N : Nat) (j_this : Nat → Int64) (f_this_dayAt : Nat → Int32) (f_this_secondAt : Nat → Int32) (f_this_spans : Nat → Int32) (n : Nat) (v1 : Int32) (i_this : Nat → Int32) (f_this_kept : Nat → Int32) : fX10_keeps_l7 N j_this f_this_dayAt f_this_secondAt f_this_spans (n + 1) v1 i_this f_this_kept = (if (8 : Int32) ≤ v1 then (fX10_keeps_l48 N j_this f_this_dayAt f_this_secondAt f_this_spans N (0 : Int32) i_this f_this_kept) else (gi v1 8 (gi v1 40 (gi v1 8 (gi ((8 : Int32) + v1) 40 (nm (v1 + (1 : Int32)) fun z10 => ((fX10_keeps_l7 N j_this f_this_dayAt f_this_secondAt f_this_spans n) z10 i_this (upd (upd f_this_kept v1.toNatClampNeg (f_this_dayAt v1.toNatClampNeg)) ((8 : Int32) + v1).toNatClampNeg (f_this_secondAt v1.toNatClampNeg))))))))) := rfl
theorem fX10_keeps_l7_0 (N : Nat) (j_this : Nat → Int64) (f_this_dayAt : Nat → Int32) (f_this_secondAt : Nat → Int32) (f_this_spans : Nat → Int32) (v1 : Int32) (i_this : Nat → Int32) (f_this_kept : Nat → Int32) : fX10_keeps_l7 N j_this f_this_dayAt f_this_secondAt f_this_spans 0 v1 i_this f_this_kept = none := rfl
noncomputable def fX10_keeps (N : Nat) (i_this : Nat → Int32) (j_this : Nat → Int64) (f_this_dayAt : Nat → Int32) (f_this_secondAt : Nat → Int32) (f_this_spans : Nat → Int32) (f_this_kept : Nat → Int32) : Option (Int32 × (Nat → Int32) × (Nat → Int32)) := (fX10_keeps_l7 N j_this f_this_dayAt f_this_secondAt f_this_spans N (0 : Int32) (upd i_this 9 (0 : Int32)) f_this_kept)
set_option maxHeartbeats 4000000 in
set_option maxRecDepth 100000 in
theorem kX10_keeps (l : Launch) (dC : Nat → ClassId) (dI : Nat → Nat → Nat) (cI cJ cB : ClassId) (h_this h_this_dayAt h_this_secondAt h_this_spans h_this_kept h_this_text h_this_row h_this_read h_this_many h_this_first h_this_lengths h_this_page : Nat) (N : Nat) (i_this : Nat → Int32) (j_this : Nat → Int64) (f_this_dayAt : Nat → Int32) (f_this_secondAt : Nat → Int32) (f_this_spans : Nat → Int32) (f_this_kept : Nat → Int32) (r : Int32) (o_i_this : Nat → Int32) (o_f_this_kept : Nat → Int32) (hf : fX10_keeps N i_this j_this f_this_dayAt f_this_secondAt f_this_spans f_this_kept = some (r, o_i_this, o_f_this_kept)) : MI l yX10_keeps (kws yX10_keeps cX10_keeps 2 (some .boolean)) (kR 0 0) (dC, dI) (kT cI cJ cB) [.ref h_this] [cl_X10 h_this h_this_dayAt h_this_secondAt h_this_spans h_this_kept h_this_text h_this_row h_this_read h_this_many h_this_first h_this_lengths h_this_page i_this j_this, (h_this_dayAt, .inl (cI, 8, .inl f_this_dayAt)), (h_this_secondAt, .inl (cI, 8, .inl f_this_secondAt)), (h_this_spans, .inl (cI, 24, .inl f_this_spans)), (h_this_kept, .inl (cI, 40, .inl f_this_kept))] [cl_X10 h_this h_this_dayAt h_this_secondAt h_this_spans h_this_kept h_this_text h_this_row h_this_read h_this_many h_this_first h_this_lengths h_this_page o_i_this j_this, (h_this_dayAt, .inl (cI, 8, .inl f_this_dayAt)), (h_this_secondAt, .inl (cI, 8, .inl f_this_secondAt)), (h_this_spans, .inl (cI, 24, .inl f_this_spans)), (h_this_kept, .inl (cI, 40, .inl o_f_this_kept))] r := by
  refine MI.of (cc := cX10_keeps) (maxL := 2) (by decide) (Nat.le_of_ble_eq_true rfl) (fun p e s m args below meth c A Q ls KC hN hK hP hD hA hl hEnd => ?_)
  obtain ⟨hx, hb, hml, hown, hts⟩ := KC
  have hown : s.vm.findClass "DateSpansModel" = some m.cls := hown
  have hl : lv_has ls 2 [(0, .ref h_this)] := hl
  have hS : va_S A s.heap s.heap [] := va_S.rf
  have LP_48 : ∀ n_48 : Nat, ∀ (v1 : Int32) (i_this : Nat → Int32) (f_this_kept : Nat → Int32) (ls : Array Slot) (H : Heap) (locs : List Loc), fX10_keeps_l48 N j_this f_this_dayAt f_this_secondAt f_this_spans n_48 v1 i_this f_this_kept = some (r, o_i_this, o_f_this_kept) → lv_has ls 2 [(0, .ref h_this), (1, .int v1)] → va_P (dC, dI) vwCl [cl_X10 h_this h_this_dayAt h_this_secondAt h_this_spans h_this_kept h_this_text h_this_row h_this_read h_this_many h_this_first h_this_lengths h_this_page i_this j_this, (h_this_dayAt, .inl (cI, 8, .inl f_this_dayAt)), (h_this_secondAt, .inl (cI, 8, .inl f_this_secondAt)), (h_this_spans, .inl (cI, 24, .inl f_this_spans)), (h_this_kept, .inl (cI, 40, .inl f_this_kept))] H → va_D A [cl_X10 h_this h_this_dayAt h_this_secondAt h_this_spans h_this_kept h_this_text h_this_row h_this_read h_this_many h_this_first h_this_lengths h_this_page i_this j_this, (h_this_dayAt, .inl (cI, 8, .inl f_this_dayAt)), (h_this_secondAt, .inl (cI, 8, .inl f_this_secondAt)), (h_this_spans, .inl (cI, 24, .inl f_this_spans)), (h_this_kept, .inl (cI, 40, .inl f_this_kept))] → va_S A s.heap H locs → W p l e (kR 0 0) s m args below meth c H locs 0 0 Q (F0 m 48 ls []) := by
    intro n_48
    induction n_48 with
    | zero =>
      intro v1 i_this f_this_kept ls H locs h hl hP hD hS
      rw [fX10_keeps_l48_0] at h; cases h
    | succ n_48 ih_48 =>
      intro v1 i_this f_this_kept ls H locs h hl hP hD hS
      rw [fX10_keeps_l48_s] at h
      refine lv_iload_n hx hb dX10_keeps_48 rfl (lv_at hl 1 rfl) ?_
      refine lv_bipush (v := (24 : Int32)) hx hb dX10_keeps_49 (by decide) ?_
      refine lv_icmp_ge (tgt := 75) hx hb dX10_keeps_51 (by decide) (fun c1 => ?_) (fun c1 => ?_)
      · have h := ite_t c1 h
        refine lv_aload_n hx hb dX10_keeps_75 rfl (lv_at hl 0 rfl) ?_
        refine lv_iconst (v := (1 : Int32)) hx hb dX10_keeps_76 (by decide) ?_
        refine va_put (D := (dC, dI)) (ci := 9) (v := .int (1 : Int32)) (ty := .boolean) (C := RX10) (T := TX10) (N := 29) hx hb hts inX10 tyX10 tyX10_ok nmX10 hown hK hP hD hS 0 rfl rfl 4 (by decide) (hts _ (kq q_990 rfl)) (fun _ h9 => h9) rfl (by decide +kernel) rfl rfl (Nat.le_of_ble_eq_true rfl) dX10_keeps_77 (fun H locs hP hD hS => ?_)
        have hP : va_P (dC, dI) vwCl [(h_this, .inr (9, [.ref h_this_dayAt, .ref h_this_secondAt, .ref h_this_spans, .ref h_this_kept, .int (1 : Int32), .ref h_this_text, .int (i_this 6), .ref h_this_row, .int (i_this 8), .int (i_this 9), .int (i_this 10), .int (i_this 11), .int (i_this 12), .int (i_this 13), .int (i_this 14), .int (i_this 15), .int (i_this 16), .int (i_this 17), .int (i_this 18), .ref h_this_read, .long (j_this 20), .ref h_this_many, .ref h_this_first, .ref h_this_lengths, .int (i_this 24), .long (j_this 25), .long (j_this 26), .ref h_this_page, .int (i_this 28)])), (h_this_dayAt, .inl (cI, 8, .inl f_this_dayAt)), (h_this_secondAt, .inl (cI, 8, .inl f_this_secondAt)), (h_this_spans, .inl (cI, 24, .inl f_this_spans)), (h_this_kept, .inl (cI, 40, .inl f_this_kept))] H := hP
        have hD : va_D A [(h_this, .inr (9, [.ref h_this_dayAt, .ref h_this_secondAt, .ref h_this_spans, .ref h_this_kept, .int (1 : Int32), .ref h_this_text, .int (i_this 6), .ref h_this_row, .int (i_this 8), .int (i_this 9), .int (i_this 10), .int (i_this 11), .int (i_this 12), .int (i_this 13), .int (i_this 14), .int (i_this 15), .int (i_this 16), .int (i_this 17), .int (i_this 18), .ref h_this_read, .long (j_this 20), .ref h_this_many, .ref h_this_first, .ref h_this_lengths, .int (i_this 24), .long (j_this 25), .long (j_this 26), .ref h_this_page, .int (i_this 28)])), (h_this_dayAt, .inl (cI, 8, .inl f_this_dayAt)), (h_this_secondAt, .inl (cI, 8, .inl f_this_secondAt)), (h_this_spans, .inl (cI, 24, .inl f_this_spans)), (h_this_kept, .inl (cI, 40, .inl f_this_kept))] := hD
        refine lv_iconst (v := (1 : Int32)) hx hb dX10_keeps_80 (by decide) ?_
        have hP : va_P (dC, dI) vwCl [cl_X10 h_this h_this_dayAt h_this_secondAt h_this_spans h_this_kept h_this_text h_this_row h_this_read h_this_many h_this_first h_this_lengths h_this_page (upd i_this 4 (1 : Int32)) j_this, (h_this_dayAt, .inl (cI, 8, .inl f_this_dayAt)), (h_this_secondAt, .inl (cI, 8, .inl f_this_secondAt)), (h_this_spans, .inl (cI, 24, .inl f_this_spans)), (h_this_kept, .inl (cI, 40, .inl f_this_kept))] H := hP
        have hD : va_D A [cl_X10 h_this h_this_dayAt h_this_secondAt h_this_spans h_this_kept h_this_text h_this_row h_this_read h_this_many h_this_first h_this_lengths h_this_page (upd i_this 4 (1 : Int32)) j_this, (h_this_dayAt, .inl (cI, 8, .inl f_this_dayAt)), (h_this_secondAt, .inl (cI, 8, .inl f_this_secondAt)), (h_this_spans, .inl (cI, 24, .inl f_this_spans)), (h_this_kept, .inl (cI, 40, .inl f_this_kept))] := hD
        obtain ⟨rfl, rfl, rfl⟩ := pj3 h
        exact hEnd _ _ _ _ hP hS dX10_keeps_81 rfl
      have h := ite_f c1 h
      refine lv_aload_n hx hb dX10_keeps_54 rfl (lv_at hl 0 rfl) ?_
      refine va_get (D := (dC, dI)) (ci := 9) (v := .ref h_this_kept) (C := RX10) (T := TX10) (N := 29) hx hb hts inX10 hown hK hP 0 rfl rfl 3 (by decide) (hts _ (kq q_989 rfl)) (fun _ h9 => h9) rfl dX10_keeps_55 ?_
      refine lv_bipush (v := (16 : Int32)) hx hb dX10_keeps_58 (by decide) ?_
      refine lv_iload_n hx hb dX10_keeps_60 rfl (lv_at hl 1 rfl) ?_
      refine lv_iadd hx hb dX10_keeps_61 ?_
      refine lv_aload_n hx hb dX10_keeps_62 rfl (lv_at hl 0 rfl) ?_
      refine va_get (D := (dC, dI)) (ci := 9) (v := .ref h_this_spans) (C := RX10) (T := TX10) (N := 29) hx hb hts inX10 hown hK hP 0 rfl rfl 2 (by decide) (hts _ (kq q_988 rfl)) (fun _ h9 => h9) rfl dX10_keeps_63 ?_
      refine lv_iload_n hx hb dX10_keeps_66 rfl (lv_at hl 1 rfl) ?_
      obtain ⟨hi2, h⟩ := gi_at h
      refine va_iald hx hb hK hP 3 0 rfl rfl hi2 dX10_keeps_67 ?_
      obtain ⟨hi3, h⟩ := gi_at h
      refine va_iast hx hb hK hP hD hS 4 0 rfl rfl hi3 dX10_keeps_68 (fun H locs hP hD hS => ?_)
      have hP : va_P (dC, dI) vwCl [cl_X10 h_this h_this_dayAt h_this_secondAt h_this_spans h_this_kept h_this_text h_this_row h_this_read h_this_many h_this_first h_this_lengths h_this_page i_this j_this, (h_this_dayAt, .inl (cI, 8, .inl f_this_dayAt)), (h_this_secondAt, .inl (cI, 8, .inl f_this_secondAt)), (h_this_spans, .inl (cI, 24, .inl f_this_spans)), (h_this_kept, .inl (cI, 40, .inl (upd f_this_kept ((16 : Int32) + v1).toNatClampNeg (f_this_spans v1.toNatClampNeg))))] H := hP
      have hD : va_D A [cl_X10 h_this h_this_dayAt h_this_secondAt h_this_spans h_this_kept h_this_text h_this_row h_this_read h_this_many h_this_first h_this_lengths h_this_page i_this j_this, (h_this_dayAt, .inl (cI, 8, .inl f_this_dayAt)), (h_this_secondAt, .inl (cI, 8, .inl f_this_secondAt)), (h_this_spans, .inl (cI, 24, .inl f_this_spans)), (h_this_kept, .inl (cI, 40, .inl (upd f_this_kept ((16 : Int32) + v1).toNatClampNeg (f_this_spans v1.toNatClampNeg))))] := hD
      obtain ⟨z4, ez4⟩ : ∃ y : Int32, y = (v1 + (1 : Int32)) := ⟨_, rfl⟩
      have h := nm_at ez4 h
      refine lv_iinc (v := z4) (lv' := [(1, .int z4), (0, .ref h_this)]) hx hb dX10_keeps_69 hl (k := 1) rfl (by rw [ez4]; rfl) (by decide) rfl (fun ls hl => ?_)
      refine lv_goto (tgt := 48) hx hb dX10_keeps_72 (by decide) ?_
      exact ih_48 _ _ _ _ _ _ h (lv_sub hl [1, 0] rfl) hP hD hS
  have LP_7 : ∀ n_7 : Nat, ∀ (v1 : Int32) (i_this : Nat → Int32) (f_this_kept : Nat → Int32) (ls : Array Slot) (H : Heap) (locs : List Loc), fX10_keeps_l7 N j_this f_this_dayAt f_this_secondAt f_this_spans n_7 v1 i_this f_this_kept = some (r, o_i_this, o_f_this_kept) → lv_has ls 2 [(0, .ref h_this), (1, .int v1)] → va_P (dC, dI) vwCl [cl_X10 h_this h_this_dayAt h_this_secondAt h_this_spans h_this_kept h_this_text h_this_row h_this_read h_this_many h_this_first h_this_lengths h_this_page i_this j_this, (h_this_dayAt, .inl (cI, 8, .inl f_this_dayAt)), (h_this_secondAt, .inl (cI, 8, .inl f_this_secondAt)), (h_this_spans, .inl (cI, 24, .inl f_this_spans)), (h_this_kept, .inl (cI, 40, .inl f_this_kept))] H → va_D A [cl_X10 h_this h_this_dayAt h_this_secondAt h_this_spans h_this_kept h_this_text h_this_row h_this_read h_this_many h_this_first h_this_lengths h_this_page i_this j_this, (h_this_dayAt, .inl (cI, 8, .inl f_this_dayAt)), (h_this_secondAt, .inl (cI, 8, .inl f_this_secondAt)), (h_this_spans, .inl (cI, 24, .inl f_this_spans)), (h_this_kept, .inl (cI, 40, .inl f_this_kept))] → va_S A s.heap H locs → W p l e (kR 0 0) s m args below meth c H locs 0 0 Q (F0 m 7 ls []) := by
    intro n_7
    induction n_7 with
    | zero =>
      intro v1 i_this f_this_kept ls H locs h hl hP hD hS
      rw [fX10_keeps_l7_0] at h; cases h
    | succ n_7 ih_7 =>
      intro v1 i_this f_this_kept ls H locs h hl hP hD hS
      rw [fX10_keeps_l7_s] at h
      refine lv_iload_n hx hb dX10_keeps_7 rfl (lv_at hl 1 rfl) ?_
      refine lv_bipush (v := (8 : Int32)) hx hb dX10_keeps_8 (by decide) ?_
      refine lv_icmp_ge (tgt := 46) hx hb dX10_keeps_10 (by decide) (fun c5 => ?_) (fun c5 => ?_)
      · have h := ite_t c5 h
        refine lv_iconst (v := (0 : Int32)) hx hb dX10_keeps_46 (by decide) ?_
        refine lv_istore_n (lv' := [(1, .int (0 : Int32)), (0, .ref h_this)]) hx hb dX10_keeps_47 rfl hl (by decide) rfl (fun ls hl => ?_)
        exact LP_48 N _ _ _ _ _ _ h (lv_sub hl [1, 0] rfl) hP hD hS
      have h := ite_f c5 h
      refine lv_aload_n hx hb dX10_keeps_13 rfl (lv_at hl 0 rfl) ?_
      refine va_get (D := (dC, dI)) (ci := 9) (v := .ref h_this_kept) (C := RX10) (T := TX10) (N := 29) hx hb hts inX10 hown hK hP 0 rfl rfl 3 (by decide) (hts _ (kq q_989 rfl)) (fun _ h9 => h9) rfl dX10_keeps_14 ?_
      refine lv_iload_n hx hb dX10_keeps_17 rfl (lv_at hl 1 rfl) ?_
      refine lv_aload_n hx hb dX10_keeps_18 rfl (lv_at hl 0 rfl) ?_
      refine va_get (D := (dC, dI)) (ci := 9) (v := .ref h_this_dayAt) (C := RX10) (T := TX10) (N := 29) hx hb hts inX10 hown hK hP 0 rfl rfl 0 (by decide) (hts _ (kq q_986 rfl)) (fun _ h9 => h9) rfl dX10_keeps_19 ?_
      refine lv_iload_n hx hb dX10_keeps_22 rfl (lv_at hl 1 rfl) ?_
      obtain ⟨hi6, h⟩ := gi_at h
      refine va_iald hx hb hK hP 1 0 rfl rfl hi6 dX10_keeps_23 ?_
      obtain ⟨hi7, h⟩ := gi_at h
      refine va_iast hx hb hK hP hD hS 4 0 rfl rfl hi7 dX10_keeps_24 (fun H locs hP hD hS => ?_)
      have hP : va_P (dC, dI) vwCl [cl_X10 h_this h_this_dayAt h_this_secondAt h_this_spans h_this_kept h_this_text h_this_row h_this_read h_this_many h_this_first h_this_lengths h_this_page i_this j_this, (h_this_dayAt, .inl (cI, 8, .inl f_this_dayAt)), (h_this_secondAt, .inl (cI, 8, .inl f_this_secondAt)), (h_this_spans, .inl (cI, 24, .inl f_this_spans)), (h_this_kept, .inl (cI, 40, .inl (upd f_this_kept v1.toNatClampNeg (f_this_dayAt v1.toNatClampNeg))))] H := hP
      have hD : va_D A [cl_X10 h_this h_this_dayAt h_this_secondAt h_this_spans h_this_kept h_this_text h_this_row h_this_read h_this_many h_this_first h_this_lengths h_this_page i_this j_this, (h_this_dayAt, .inl (cI, 8, .inl f_this_dayAt)), (h_this_secondAt, .inl (cI, 8, .inl f_this_secondAt)), (h_this_spans, .inl (cI, 24, .inl f_this_spans)), (h_this_kept, .inl (cI, 40, .inl (upd f_this_kept v1.toNatClampNeg (f_this_dayAt v1.toNatClampNeg))))] := hD
      refine lv_aload_n hx hb dX10_keeps_25 rfl (lv_at hl 0 rfl) ?_
      refine va_get (D := (dC, dI)) (ci := 9) (v := .ref h_this_kept) (C := RX10) (T := TX10) (N := 29) hx hb hts inX10 hown hK hP 0 rfl rfl 3 (by decide) (hts _ (kq q_989 rfl)) (fun _ h9 => h9) rfl dX10_keeps_26 ?_
      refine lv_bipush (v := (8 : Int32)) hx hb dX10_keeps_29 (by decide) ?_
      refine lv_iload_n hx hb dX10_keeps_31 rfl (lv_at hl 1 rfl) ?_
      refine lv_iadd hx hb dX10_keeps_32 ?_
      refine lv_aload_n hx hb dX10_keeps_33 rfl (lv_at hl 0 rfl) ?_
      refine va_get (D := (dC, dI)) (ci := 9) (v := .ref h_this_secondAt) (C := RX10) (T := TX10) (N := 29) hx hb hts inX10 hown hK hP 0 rfl rfl 1 (by decide) (hts _ (kq q_987 rfl)) (fun _ h9 => h9) rfl dX10_keeps_34 ?_
      refine lv_iload_n hx hb dX10_keeps_37 rfl (lv_at hl 1 rfl) ?_
      obtain ⟨hi8, h⟩ := gi_at h
      refine va_iald hx hb hK hP 2 0 rfl rfl hi8 dX10_keeps_38 ?_
      obtain ⟨hi9, h⟩ := gi_at h
      refine va_iast hx hb hK hP hD hS 4 0 rfl rfl hi9 dX10_keeps_39 (fun H locs hP hD hS => ?_)
      have hP : va_P (dC, dI) vwCl [cl_X10 h_this h_this_dayAt h_this_secondAt h_this_spans h_this_kept h_this_text h_this_row h_this_read h_this_many h_this_first h_this_lengths h_this_page i_this j_this, (h_this_dayAt, .inl (cI, 8, .inl f_this_dayAt)), (h_this_secondAt, .inl (cI, 8, .inl f_this_secondAt)), (h_this_spans, .inl (cI, 24, .inl f_this_spans)), (h_this_kept, .inl (cI, 40, .inl (upd (upd f_this_kept v1.toNatClampNeg (f_this_dayAt v1.toNatClampNeg)) ((8 : Int32) + v1).toNatClampNeg (f_this_secondAt v1.toNatClampNeg))))] H := hP
      have hD : va_D A [cl_X10 h_this h_this_dayAt h_this_secondAt h_this_spans h_this_kept h_this_text h_this_row h_this_read h_this_many h_this_first h_this_lengths h_this_page i_this j_this, (h_this_dayAt, .inl (cI, 8, .inl f_this_dayAt)), (h_this_secondAt, .inl (cI, 8, .inl f_this_secondAt)), (h_this_spans, .inl (cI, 24, .inl f_this_spans)), (h_this_kept, .inl (cI, 40, .inl (upd (upd f_this_kept v1.toNatClampNeg (f_this_dayAt v1.toNatClampNeg)) ((8 : Int32) + v1).toNatClampNeg (f_this_secondAt v1.toNatClampNeg))))] := hD
      obtain ⟨z10, ez10⟩ : ∃ y : Int32, y = (v1 + (1 : Int32)) := ⟨_, rfl⟩
      have h := nm_at ez10 h
      refine lv_iinc (v := z10) (lv' := [(1, .int z10), (0, .ref h_this)]) hx hb dX10_keeps_40 hl (k := 1) rfl (by rw [ez10]; rfl) (by decide) rfl (fun ls hl => ?_)
      refine lv_goto (tgt := 7) hx hb dX10_keeps_43 (by decide) ?_
      exact ih_7 _ _ _ _ _ _ h (lv_sub hl [1, 0] rfl) hP hD hS
  have h := hf
  unfold fX10_keeps at h
  refine lv_aload_n hx hb dX10_keeps_0 rfl (lv_at hl 0 rfl) ?_
  refine lv_iconst (v := (0 : Int32)) hx hb dX10_keeps_1 (by decide) ?_
  refine va_put (D := (dC, dI)) (ci := 9) (v := .int (0 : Int32)) (ty := .int) (C := RX10) (T := TX10) (N := 29) hx hb hts inX10 tyX10 tyX10_ok nmX10 hown hK hP hD hS 0 rfl rfl 9 (by decide) (hts _ (kq q_995 rfl)) (fun _ h9 => h9) rfl (by decide +kernel) rfl rfl (Nat.le_of_ble_eq_true rfl) dX10_keeps_2 (fun H locs hP hD hS => ?_)
  have hP : va_P (dC, dI) vwCl [(h_this, .inr (9, [.ref h_this_dayAt, .ref h_this_secondAt, .ref h_this_spans, .ref h_this_kept, .int (i_this 4), .ref h_this_text, .int (i_this 6), .ref h_this_row, .int (i_this 8), .int (0 : Int32), .int (i_this 10), .int (i_this 11), .int (i_this 12), .int (i_this 13), .int (i_this 14), .int (i_this 15), .int (i_this 16), .int (i_this 17), .int (i_this 18), .ref h_this_read, .long (j_this 20), .ref h_this_many, .ref h_this_first, .ref h_this_lengths, .int (i_this 24), .long (j_this 25), .long (j_this 26), .ref h_this_page, .int (i_this 28)])), (h_this_dayAt, .inl (cI, 8, .inl f_this_dayAt)), (h_this_secondAt, .inl (cI, 8, .inl f_this_secondAt)), (h_this_spans, .inl (cI, 24, .inl f_this_spans)), (h_this_kept, .inl (cI, 40, .inl f_this_kept))] H := hP
  have hD : va_D A [(h_this, .inr (9, [.ref h_this_dayAt, .ref h_this_secondAt, .ref h_this_spans, .ref h_this_kept, .int (i_this 4), .ref h_this_text, .int (i_this 6), .ref h_this_row, .int (i_this 8), .int (0 : Int32), .int (i_this 10), .int (i_this 11), .int (i_this 12), .int (i_this 13), .int (i_this 14), .int (i_this 15), .int (i_this 16), .int (i_this 17), .int (i_this 18), .ref h_this_read, .long (j_this 20), .ref h_this_many, .ref h_this_first, .ref h_this_lengths, .int (i_this 24), .long (j_this 25), .long (j_this 26), .ref h_this_page, .int (i_this 28)])), (h_this_dayAt, .inl (cI, 8, .inl f_this_dayAt)), (h_this_secondAt, .inl (cI, 8, .inl f_this_secondAt)), (h_this_spans, .inl (cI, 24, .inl f_this_spans)), (h_this_kept, .inl (cI, 40, .inl f_this_kept))] := hD
  refine lv_iconst (v := (0 : Int32)) hx hb dX10_keeps_5 (by decide) ?_
  refine lv_istore_n (lv' := [(1, .int (0 : Int32)), (0, .ref h_this)]) hx hb dX10_keeps_6 rfl hl (by decide) rfl (fun ls hl => ?_)
  have hP : va_P (dC, dI) vwCl [cl_X10 h_this h_this_dayAt h_this_secondAt h_this_spans h_this_kept h_this_text h_this_row h_this_read h_this_many h_this_first h_this_lengths h_this_page (upd i_this 9 (0 : Int32)) j_this, (h_this_dayAt, .inl (cI, 8, .inl f_this_dayAt)), (h_this_secondAt, .inl (cI, 8, .inl f_this_secondAt)), (h_this_spans, .inl (cI, 24, .inl f_this_spans)), (h_this_kept, .inl (cI, 40, .inl f_this_kept))] H := hP
  have hD : va_D A [cl_X10 h_this h_this_dayAt h_this_secondAt h_this_spans h_this_kept h_this_text h_this_row h_this_read h_this_many h_this_first h_this_lengths h_this_page (upd i_this 9 (0 : Int32)) j_this, (h_this_dayAt, .inl (cI, 8, .inl f_this_dayAt)), (h_this_secondAt, .inl (cI, 8, .inl f_this_secondAt)), (h_this_spans, .inl (cI, 24, .inl f_this_spans)), (h_this_kept, .inl (cI, 40, .inl f_this_kept))] := hD
  exact LP_7 N _ _ _ _ _ _ h (lv_sub hl [1, 0] rfl) hP hD hS
noncomputable def fX10_back_l57 (N : Nat) (j_this : Nat → Int64) (f_this_kept : Nat → Int32) (n : Nat) : Int32 → (Nat → Int32) → (Nat → Int32) → (Nat → Int32) → (Nat → Int32) → Option (Int32 × (Nat → Int32) × (Nat → Int32) × (Nat → Int32) × (Nat → Int32)) := Nat.rec (motive := fun _ => Int32 → (Nat → Int32) → (Nat → Int32) → (Nat → Int32) → (Nat → Int32) → Option (Int32 × (Nat → Int32) × (Nat → Int32) × (Nat → Int32) × (Nat → Int32))) (fun _ _ _ _ _ => none) (fun _ K_57 v1 i_this f_this_dayAt f_this_secondAt f_this_spans => (if (24 : Int32) ≤ v1 then (some ((1 : Int32), i_this, f_this_dayAt, f_this_secondAt, f_this_spans)) else (gi ((16 : Int32) + v1) 40 (gi v1 24 (nm (v1 + (1 : Int32)) fun z4 => (K_57 z4 i_this f_this_dayAt f_this_secondAt (upd f_this_spans v1.toNatClampNeg (f_this_kept ((16 : Int32) + v1).toNatClampNeg)))))))) n
theorem fX10_back_l57_s (N : Nat) (j_this : Nat → Int64) (f_this_kept : Nat → Int32) (n : Nat) (v1 : Int32) (i_this : Nat → Int32) (f_this_dayAt : Nat → Int32) (f_this_secondAt : Nat → Int32) (f_this_spans : Nat → Int32) : fX10_back_l57 N j_this f_this_kept (n + 1) v1 i_this f_this_dayAt f_this_secondAt f_this_spans = (if (24 : Int32) ≤ v1 then (some ((1 : Int32), i_this, f_this_dayAt, f_this_secondAt, f_this_spans)) else (gi ((16 : Int32) + v1) 40 (gi v1 24 (nm (v1 + (1 : Int32)) fun z4 => ((fX10_back_l57 N j_this f_this_kept n) z4 i_this f_this_dayAt f_this_secondAt (upd f_this_spans v1.toNatClampNeg (f_this_kept ((16 : Int32) + v1).toNatClampNeg))))))) := rfl
theorem fX10_back_l57_0 (N : Nat) (j_this : Nat → Int64) (f_this_kept : Nat → Int32) (v1 : Int32) (i_this : Nat → Int32) (f_this_dayAt : Nat → Int32) (f_this_secondAt : Nat → Int32) (f_this_spans : Nat → Int32) : fX10_back_l57 N j_this f_this_kept 0 v1 i_this f_this_dayAt f_this_secondAt f_this_spans = none := rfl
noncomputable def fX10_back_l16 (N : Nat) (j_this : Nat → Int64) (f_this_kept : Nat → Int32) (n : Nat) : Int32 → (Nat → Int32) → (Nat → Int32) → (Nat → Int32) → (Nat → Int32) → Option (Int32 × (Nat → Int32) × (Nat → Int32) × (Nat → Int32) × (Nat → Int32)) := Nat.rec (motive := fun _ => Int32 → (Nat → Int32) → (Nat → Int32) → (Nat → Int32) → (Nat → Int32) → Option (Int32 × (Nat → Int32) × (Nat → Int32) × (Nat → Int32) × (Nat → Int32))) (fun _ _ _ _ _ => none) (fun _ K_16 v1 i_this f_this_dayAt f_this_secondAt f_this_spans => (if (8 : Int32) ≤ v1 then (fX10_back_l57 N j_this f_this_kept N (0 : Int32) i_this f_this_dayAt f_this_secondAt f_this_spans) else (gi v1 40 (gi v1 8 (gi ((8 : Int32) + v1) 40 (gi v1 8 (nm (v1 + (1 : Int32)) fun z10 => (K_16 z10 i_this (upd f_this_dayAt v1.toNatClampNeg (f_this_kept v1.toNatClampNeg)) (upd f_this_secondAt v1.toNatClampNeg (f_this_kept ((8 : Int32) + v1).toNatClampNeg)) f_this_spans)))))))) n
theorem fX10_back_l16_s (N : Nat) (j_this : Nat → Int64) (f_this_kept : Nat → Int32) (n : Nat) (v1 : Int32) (i_this : Nat → Int32) (f_this_dayAt : Nat → Int32) (f_this_secondAt : Nat → Int32) (f_this_spans : Nat → Int32) : fX10_back_l16 N j_this f_this_kept (n + 1) v1 i_this f_this_dayAt f_this_secondAt f_this_spans = (if (8 : Int32) ≤ v1 then (fX10_back_l57 N j_this f_this_kept N (0 : Int32) i_this f_this_dayAt f_this_secondAt f_this_spans) else (gi v1 40 (gi v1 8 (gi ((8 : Int32) + v1) 40 (gi v1 8 (nm (v1 + (1 : Int32)) fun z10 => ((fX10_back_l16 N j_this f_this_kept n) z10 i_this (upd f_this_dayAt v1.toNatClampNeg (f_this_kept v1.toNatClampNeg)) (upd f_this_secondAt v1.toNatClampNeg (f_this_kept ((8 : Int32) + v1).toNatClampNeg)) f_this_spans))))))) := rfl
theorem fX10_back_l16_0 (N : Nat) (j_this : Nat → Int64) (f_this_kept : Nat → Int32) (v1 : Int32) (i_this : Nat → Int32) (f_this_dayAt : Nat → Int32) (f_this_secondAt : Nat → Int32) (f_this_spans : Nat → Int32) : fX10_back_l16 N j_this f_this_kept 0 v1 i_this f_this_dayAt f_this_secondAt f_this_spans = none := rfl
noncomputable def fX10_back (N : Nat) (i_this : Nat → Int32) (j_this : Nat → Int64) (f_this_dayAt : Nat → Int32) (f_this_secondAt : Nat → Int32) (f_this_spans : Nat → Int32) (f_this_kept : Nat → Int32) : Option (Int32 × (Nat → Int32) × (Nat → Int32) × (Nat → Int32) × (Nat → Int32)) := (if (i_this 4) = (0 : Int32) then (some ((0 : Int32), (upd i_this 9 (0 : Int32)), f_this_dayAt, f_this_secondAt, f_this_spans)) else (fX10_back_l16 N j_this f_this_kept N (0 : Int32) (upd i_this 9 (0 : Int32)) f_this_dayAt f_this_secondAt f_this_spans))
set_option maxHeartbeats 4000000 in
set_option maxRecDepth 100000 in
theorem kX10_back (l : Launch) (dC : Nat → ClassId) (dI : Nat → Nat → Nat) (cI cJ cB : ClassId) (h_this h_this_dayAt h_this_secondAt h_this_spans h_this_kept h_this_text h_this_row h_this_read h_this_many h_this_first h_this_lengths h_this_page : Nat) (N : Nat) (i_this : Nat → Int32) (j_this : Nat → Int64) (f_this_dayAt : Nat → Int32) (f_this_secondAt : Nat → Int32) (f_this_spans : Nat → Int32) (f_this_kept : Nat → Int32) (r : Int32) (o_i_this : Nat → Int32) (o_f_this_dayAt : Nat → Int32) (o_f_this_secondAt : Nat → Int32) (o_f_this_spans : Nat → Int32) (hf : fX10_back N i_this j_this f_this_dayAt f_this_secondAt f_this_spans f_this_kept = some (r, o_i_this, o_f_this_dayAt, o_f_this_secondAt, o_f_this_spans)) : MI l yX10_back (kws yX10_back cX10_back 2 (some .boolean)) (kR 0 0) (dC, dI) (kT cI cJ cB) [.ref h_this] [cl_X10 h_this h_this_dayAt h_this_secondAt h_this_spans h_this_kept h_this_text h_this_row h_this_read h_this_many h_this_first h_this_lengths h_this_page i_this j_this, (h_this_dayAt, .inl (cI, 8, .inl f_this_dayAt)), (h_this_secondAt, .inl (cI, 8, .inl f_this_secondAt)), (h_this_spans, .inl (cI, 24, .inl f_this_spans)), (h_this_kept, .inl (cI, 40, .inl f_this_kept))] [cl_X10 h_this h_this_dayAt h_this_secondAt h_this_spans h_this_kept h_this_text h_this_row h_this_read h_this_many h_this_first h_this_lengths h_this_page o_i_this j_this, (h_this_dayAt, .inl (cI, 8, .inl o_f_this_dayAt)), (h_this_secondAt, .inl (cI, 8, .inl o_f_this_secondAt)), (h_this_spans, .inl (cI, 24, .inl o_f_this_spans)), (h_this_kept, .inl (cI, 40, .inl f_this_kept))] r := by
  refine MI.of (cc := cX10_back) (maxL := 2) (by decide) (Nat.le_of_ble_eq_true rfl) (fun p e s m args below meth c A Q ls KC hN hK hP hD hA hl hEnd => ?_)
  obtain ⟨hx, hb, hml, hown, hts⟩ := KC
  have hown : s.vm.findClass "DateSpansModel" = some m.cls := hown
  have hl : lv_has ls 2 [(0, .ref h_this)] := hl
  have hS : va_S A s.heap s.heap [] := va_S.rf
  have LP_57 : ∀ n_57 : Nat, ∀ (v1 : Int32) (i_this : Nat → Int32) (f_this_dayAt : Nat → Int32) (f_this_secondAt : Nat → Int32) (f_this_spans : Nat → Int32) (ls : Array Slot) (H : Heap) (locs : List Loc), fX10_back_l57 N j_this f_this_kept n_57 v1 i_this f_this_dayAt f_this_secondAt f_this_spans = some (r, o_i_this, o_f_this_dayAt, o_f_this_secondAt, o_f_this_spans) → lv_has ls 2 [(0, .ref h_this), (1, .int v1)] → va_P (dC, dI) vwCl [cl_X10 h_this h_this_dayAt h_this_secondAt h_this_spans h_this_kept h_this_text h_this_row h_this_read h_this_many h_this_first h_this_lengths h_this_page i_this j_this, (h_this_dayAt, .inl (cI, 8, .inl f_this_dayAt)), (h_this_secondAt, .inl (cI, 8, .inl f_this_secondAt)), (h_this_spans, .inl (cI, 24, .inl f_this_spans)), (h_this_kept, .inl (cI, 40, .inl f_this_kept))] H → va_D A [cl_X10 h_this h_this_dayAt h_this_secondAt h_this_spans h_this_kept h_this_text h_this_row h_this_read h_this_many h_this_first h_this_lengths h_this_page i_this j_this, (h_this_dayAt, .inl (cI, 8, .inl f_this_dayAt)), (h_this_secondAt, .inl (cI, 8, .inl f_this_secondAt)), (h_this_spans, .inl (cI, 24, .inl f_this_spans)), (h_this_kept, .inl (cI, 40, .inl f_this_kept))] → va_S A s.heap H locs → W p l e (kR 0 0) s m args below meth c H locs 0 0 Q (F0 m 57 ls []) := by
    intro n_57
    induction n_57 with
    | zero =>
      intro v1 i_this f_this_dayAt f_this_secondAt f_this_spans ls H locs h hl hP hD hS
      rw [fX10_back_l57_0] at h; cases h
    | succ n_57 ih_57 =>
      intro v1 i_this f_this_dayAt f_this_secondAt f_this_spans ls H locs h hl hP hD hS
      rw [fX10_back_l57_s] at h
      refine lv_iload_n hx hb dX10_back_57 rfl (lv_at hl 1 rfl) ?_
      refine lv_bipush (v := (24 : Int32)) hx hb dX10_back_58 (by decide) ?_
      refine lv_icmp_ge (tgt := 84) hx hb dX10_back_60 (by decide) (fun c1 => ?_) (fun c1 => ?_)
      · have h := ite_t c1 h
        refine lv_iconst (v := (1 : Int32)) hx hb dX10_back_84 (by decide) ?_
        obtain ⟨rfl, rfl, rfl, rfl, rfl⟩ := pj5 h
        exact hEnd _ _ _ _ hP hS dX10_back_85 rfl
      have h := ite_f c1 h
      refine lv_aload_n hx hb dX10_back_63 rfl (lv_at hl 0 rfl) ?_
      refine va_get (D := (dC, dI)) (ci := 9) (v := .ref h_this_spans) (C := RX10) (T := TX10) (N := 29) hx hb hts inX10 hown hK hP 0 rfl rfl 2 (by decide) (hts _ (kq q_988 rfl)) (fun _ h9 => h9) rfl dX10_back_64 ?_
      refine lv_iload_n hx hb dX10_back_67 rfl (lv_at hl 1 rfl) ?_
      refine lv_aload_n hx hb dX10_back_68 rfl (lv_at hl 0 rfl) ?_
      refine va_get (D := (dC, dI)) (ci := 9) (v := .ref h_this_kept) (C := RX10) (T := TX10) (N := 29) hx hb hts inX10 hown hK hP 0 rfl rfl 3 (by decide) (hts _ (kq q_989 rfl)) (fun _ h9 => h9) rfl dX10_back_69 ?_
      refine lv_bipush (v := (16 : Int32)) hx hb dX10_back_72 (by decide) ?_
      refine lv_iload_n hx hb dX10_back_74 rfl (lv_at hl 1 rfl) ?_
      refine lv_iadd hx hb dX10_back_75 ?_
      obtain ⟨hi2, h⟩ := gi_at h
      refine va_iald hx hb hK hP 4 0 rfl rfl hi2 dX10_back_76 ?_
      obtain ⟨hi3, h⟩ := gi_at h
      refine va_iast hx hb hK hP hD hS 3 0 rfl rfl hi3 dX10_back_77 (fun H locs hP hD hS => ?_)
      have hP : va_P (dC, dI) vwCl [cl_X10 h_this h_this_dayAt h_this_secondAt h_this_spans h_this_kept h_this_text h_this_row h_this_read h_this_many h_this_first h_this_lengths h_this_page i_this j_this, (h_this_dayAt, .inl (cI, 8, .inl f_this_dayAt)), (h_this_secondAt, .inl (cI, 8, .inl f_this_secondAt)), (h_this_spans, .inl (cI, 24, .inl (upd f_this_spans v1.toNatClampNeg (f_this_kept ((16 : Int32) + v1).toNatClampNeg)))), (h_this_kept, .inl (cI, 40, .inl f_this_kept))] H := hP
      have hD : va_D A [cl_X10 h_this h_this_dayAt h_this_secondAt h_this_spans h_this_kept h_this_text h_this_row h_this_read h_this_many h_this_first h_this_lengths h_this_page i_this j_this, (h_this_dayAt, .inl (cI, 8, .inl f_this_dayAt)), (h_this_secondAt, .inl (cI, 8, .inl f_this_secondAt)), (h_this_spans, .inl (cI, 24, .inl (upd f_this_spans v1.toNatClampNeg (f_this_kept ((16 : Int32) + v1).toNatClampNeg)))), (h_this_kept, .inl (cI, 40, .inl f_this_kept))] := hD
      obtain ⟨z4, ez4⟩ : ∃ y : Int32, y = (v1 + (1 : Int32)) := ⟨_, rfl⟩
      have h := nm_at ez4 h
      refine lv_iinc (v := z4) (lv' := [(1, .int z4), (0, .ref h_this)]) hx hb dX10_back_78 hl (k := 1) rfl (by rw [ez4]; rfl) (by decide) rfl (fun ls hl => ?_)
      refine lv_goto (tgt := 57) hx hb dX10_back_81 (by decide) ?_
      exact ih_57 _ _ _ _ _ _ _ _ h (lv_sub hl [1, 0] rfl) hP hD hS
  have LP_16 : ∀ n_16 : Nat, ∀ (v1 : Int32) (i_this : Nat → Int32) (f_this_dayAt : Nat → Int32) (f_this_secondAt : Nat → Int32) (f_this_spans : Nat → Int32) (ls : Array Slot) (H : Heap) (locs : List Loc), fX10_back_l16 N j_this f_this_kept n_16 v1 i_this f_this_dayAt f_this_secondAt f_this_spans = some (r, o_i_this, o_f_this_dayAt, o_f_this_secondAt, o_f_this_spans) → lv_has ls 2 [(0, .ref h_this), (1, .int v1)] → va_P (dC, dI) vwCl [cl_X10 h_this h_this_dayAt h_this_secondAt h_this_spans h_this_kept h_this_text h_this_row h_this_read h_this_many h_this_first h_this_lengths h_this_page i_this j_this, (h_this_dayAt, .inl (cI, 8, .inl f_this_dayAt)), (h_this_secondAt, .inl (cI, 8, .inl f_this_secondAt)), (h_this_spans, .inl (cI, 24, .inl f_this_spans)), (h_this_kept, .inl (cI, 40, .inl f_this_kept))] H → va_D A [cl_X10 h_this h_this_dayAt h_this_secondAt h_this_spans h_this_kept h_this_text h_this_row h_this_read h_this_many h_this_first h_this_lengths h_this_page i_this j_this, (h_this_dayAt, .inl (cI, 8, .inl f_this_dayAt)), (h_this_secondAt, .inl (cI, 8, .inl f_this_secondAt)), (h_this_spans, .inl (cI, 24, .inl f_this_spans)), (h_this_kept, .inl (cI, 40, .inl f_this_kept))] → va_S A s.heap H locs → W p l e (kR 0 0) s m args below meth c H locs 0 0 Q (F0 m 16 ls []) := by
    intro n_16
    induction n_16 with
    | zero =>
      intro v1 i_this f_this_dayAt f_this_secondAt f_this_spans ls H locs h hl hP hD hS
      rw [fX10_back_l16_0] at h; cases h
    | succ n_16 ih_16 =>
      intro v1 i_this f_this_dayAt f_this_secondAt f_this_spans ls H locs h hl hP hD hS
      rw [fX10_back_l16_s] at h
      refine lv_iload_n hx hb dX10_back_16 rfl (lv_at hl 1 rfl) ?_
      refine lv_bipush (v := (8 : Int32)) hx hb dX10_back_17 (by decide) ?_
      refine lv_icmp_ge (tgt := 55) hx hb dX10_back_19 (by decide) (fun c5 => ?_) (fun c5 => ?_)
      · have h := ite_t c5 h
        refine lv_iconst (v := (0 : Int32)) hx hb dX10_back_55 (by decide) ?_
        refine lv_istore_n (lv' := [(1, .int (0 : Int32)), (0, .ref h_this)]) hx hb dX10_back_56 rfl hl (by decide) rfl (fun ls hl => ?_)
        exact LP_57 N _ _ _ _ _ _ _ _ h (lv_sub hl [1, 0] rfl) hP hD hS
      have h := ite_f c5 h
      refine lv_aload_n hx hb dX10_back_22 rfl (lv_at hl 0 rfl) ?_
      refine va_get (D := (dC, dI)) (ci := 9) (v := .ref h_this_dayAt) (C := RX10) (T := TX10) (N := 29) hx hb hts inX10 hown hK hP 0 rfl rfl 0 (by decide) (hts _ (kq q_986 rfl)) (fun _ h9 => h9) rfl dX10_back_23 ?_
      refine lv_iload_n hx hb dX10_back_26 rfl (lv_at hl 1 rfl) ?_
      refine lv_aload_n hx hb dX10_back_27 rfl (lv_at hl 0 rfl) ?_
      refine va_get (D := (dC, dI)) (ci := 9) (v := .ref h_this_kept) (C := RX10) (T := TX10) (N := 29) hx hb hts inX10 hown hK hP 0 rfl rfl 3 (by decide) (hts _ (kq q_989 rfl)) (fun _ h9 => h9) rfl dX10_back_28 ?_
      refine lv_iload_n hx hb dX10_back_31 rfl (lv_at hl 1 rfl) ?_
      obtain ⟨hi6, h⟩ := gi_at h
      refine va_iald hx hb hK hP 4 0 rfl rfl hi6 dX10_back_32 ?_
      obtain ⟨hi7, h⟩ := gi_at h
      refine va_iast hx hb hK hP hD hS 1 0 rfl rfl hi7 dX10_back_33 (fun H locs hP hD hS => ?_)
      have hP : va_P (dC, dI) vwCl [cl_X10 h_this h_this_dayAt h_this_secondAt h_this_spans h_this_kept h_this_text h_this_row h_this_read h_this_many h_this_first h_this_lengths h_this_page i_this j_this, (h_this_dayAt, .inl (cI, 8, .inl (upd f_this_dayAt v1.toNatClampNeg (f_this_kept v1.toNatClampNeg)))), (h_this_secondAt, .inl (cI, 8, .inl f_this_secondAt)), (h_this_spans, .inl (cI, 24, .inl f_this_spans)), (h_this_kept, .inl (cI, 40, .inl f_this_kept))] H := hP
      have hD : va_D A [cl_X10 h_this h_this_dayAt h_this_secondAt h_this_spans h_this_kept h_this_text h_this_row h_this_read h_this_many h_this_first h_this_lengths h_this_page i_this j_this, (h_this_dayAt, .inl (cI, 8, .inl (upd f_this_dayAt v1.toNatClampNeg (f_this_kept v1.toNatClampNeg)))), (h_this_secondAt, .inl (cI, 8, .inl f_this_secondAt)), (h_this_spans, .inl (cI, 24, .inl f_this_spans)), (h_this_kept, .inl (cI, 40, .inl f_this_kept))] := hD
      refine lv_aload_n hx hb dX10_back_34 rfl (lv_at hl 0 rfl) ?_
      refine va_get (D := (dC, dI)) (ci := 9) (v := .ref h_this_secondAt) (C := RX10) (T := TX10) (N := 29) hx hb hts inX10 hown hK hP 0 rfl rfl 1 (by decide) (hts _ (kq q_987 rfl)) (fun _ h9 => h9) rfl dX10_back_35 ?_
      refine lv_iload_n hx hb dX10_back_38 rfl (lv_at hl 1 rfl) ?_
      refine lv_aload_n hx hb dX10_back_39 rfl (lv_at hl 0 rfl) ?_
      refine va_get (D := (dC, dI)) (ci := 9) (v := .ref h_this_kept) (C := RX10) (T := TX10) (N := 29) hx hb hts inX10 hown hK hP 0 rfl rfl 3 (by decide) (hts _ (kq q_989 rfl)) (fun _ h9 => h9) rfl dX10_back_40 ?_
      refine lv_bipush (v := (8 : Int32)) hx hb dX10_back_43 (by decide) ?_
      refine lv_iload_n hx hb dX10_back_45 rfl (lv_at hl 1 rfl) ?_
      refine lv_iadd hx hb dX10_back_46 ?_
      obtain ⟨hi8, h⟩ := gi_at h
      refine va_iald hx hb hK hP 4 0 rfl rfl hi8 dX10_back_47 ?_
      obtain ⟨hi9, h⟩ := gi_at h
      refine va_iast hx hb hK hP hD hS 2 0 rfl rfl hi9 dX10_back_48 (fun H locs hP hD hS => ?_)
      have hP : va_P (dC, dI) vwCl [cl_X10 h_this h_this_dayAt h_this_secondAt h_this_spans h_this_kept h_this_text h_this_row h_this_read h_this_many h_this_first h_this_lengths h_this_page i_this j_this, (h_this_dayAt, .inl (cI, 8, .inl (upd f_this_dayAt v1.toNatClampNeg (f_this_kept v1.toNatClampNeg)))), (h_this_secondAt, .inl (cI, 8, .inl (upd f_this_secondAt v1.toNatClampNeg (f_this_kept ((8 : Int32) + v1).toNatClampNeg)))), (h_this_spans, .inl (cI, 24, .inl f_this_spans)), (h_this_kept, .inl (cI, 40, .inl f_this_kept))] H := hP
      have hD : va_D A [cl_X10 h_this h_this_dayAt h_this_secondAt h_this_spans h_this_kept h_this_text h_this_row h_this_read h_this_many h_this_first h_this_lengths h_this_page i_this j_this, (h_this_dayAt, .inl (cI, 8, .inl (upd f_this_dayAt v1.toNatClampNeg (f_this_kept v1.toNatClampNeg)))), (h_this_secondAt, .inl (cI, 8, .inl (upd f_this_secondAt v1.toNatClampNeg (f_this_kept ((8 : Int32) + v1).toNatClampNeg)))), (h_this_spans, .inl (cI, 24, .inl f_this_spans)), (h_this_kept, .inl (cI, 40, .inl f_this_kept))] := hD
      obtain ⟨z10, ez10⟩ : ∃ y : Int32, y = (v1 + (1 : Int32)) := ⟨_, rfl⟩
      have h := nm_at ez10 h
      refine lv_iinc (v := z10) (lv' := [(1, .int z10), (0, .ref h_this)]) hx hb dX10_back_49 hl (k := 1) rfl (by rw [ez10]; rfl) (by decide) rfl (fun ls hl => ?_)
      refine lv_goto (tgt := 16) hx hb dX10_back_52 (by decide) ?_
      exact ih_16 _ _ _ _ _ _ _ _ h (lv_sub hl [1, 0] rfl) hP hD hS
  have h := hf
  unfold fX10_back at h
  refine lv_aload_n hx hb dX10_back_0 rfl (lv_at hl 0 rfl) ?_
  refine lv_iconst (v := (0 : Int32)) hx hb dX10_back_1 (by decide) ?_
  refine va_put (D := (dC, dI)) (ci := 9) (v := .int (0 : Int32)) (ty := .int) (C := RX10) (T := TX10) (N := 29) hx hb hts inX10 tyX10 tyX10_ok nmX10 hown hK hP hD hS 0 rfl rfl 9 (by decide) (hts _ (kq q_995 rfl)) (fun _ h9 => h9) rfl (by decide +kernel) rfl rfl (Nat.le_of_ble_eq_true rfl) dX10_back_2 (fun H locs hP hD hS => ?_)
  have hP : va_P (dC, dI) vwCl [(h_this, .inr (9, [.ref h_this_dayAt, .ref h_this_secondAt, .ref h_this_spans, .ref h_this_kept, .int (i_this 4), .ref h_this_text, .int (i_this 6), .ref h_this_row, .int (i_this 8), .int (0 : Int32), .int (i_this 10), .int (i_this 11), .int (i_this 12), .int (i_this 13), .int (i_this 14), .int (i_this 15), .int (i_this 16), .int (i_this 17), .int (i_this 18), .ref h_this_read, .long (j_this 20), .ref h_this_many, .ref h_this_first, .ref h_this_lengths, .int (i_this 24), .long (j_this 25), .long (j_this 26), .ref h_this_page, .int (i_this 28)])), (h_this_dayAt, .inl (cI, 8, .inl f_this_dayAt)), (h_this_secondAt, .inl (cI, 8, .inl f_this_secondAt)), (h_this_spans, .inl (cI, 24, .inl f_this_spans)), (h_this_kept, .inl (cI, 40, .inl f_this_kept))] H := hP
  have hD : va_D A [(h_this, .inr (9, [.ref h_this_dayAt, .ref h_this_secondAt, .ref h_this_spans, .ref h_this_kept, .int (i_this 4), .ref h_this_text, .int (i_this 6), .ref h_this_row, .int (i_this 8), .int (0 : Int32), .int (i_this 10), .int (i_this 11), .int (i_this 12), .int (i_this 13), .int (i_this 14), .int (i_this 15), .int (i_this 16), .int (i_this 17), .int (i_this 18), .ref h_this_read, .long (j_this 20), .ref h_this_many, .ref h_this_first, .ref h_this_lengths, .int (i_this 24), .long (j_this 25), .long (j_this 26), .ref h_this_page, .int (i_this 28)])), (h_this_dayAt, .inl (cI, 8, .inl f_this_dayAt)), (h_this_secondAt, .inl (cI, 8, .inl f_this_secondAt)), (h_this_spans, .inl (cI, 24, .inl f_this_spans)), (h_this_kept, .inl (cI, 40, .inl f_this_kept))] := hD
  refine lv_aload_n hx hb dX10_back_5 rfl (lv_at hl 0 rfl) ?_
  refine va_get (D := (dC, dI)) (ci := 9) (v := .int (i_this 4)) (C := RX10) (T := TX10) (N := 29) hx hb hts inX10 hown hK hP 0 rfl rfl 4 (by decide) (hts _ (kq q_990 rfl)) (fun _ h9 => h9) rfl dX10_back_6 ?_
  refine lv_if_ne (tgt := 14) hx hb dX10_back_9 (by decide) (fun c11 => ?_) (fun c11 => ?_)
  · have h := ite_f c11 h
    refine lv_iconst (v := (0 : Int32)) hx hb dX10_back_14 (by decide) ?_
    refine lv_istore_n (lv' := [(1, .int (0 : Int32)), (0, .ref h_this)]) hx hb dX10_back_15 rfl hl (by decide) rfl (fun ls hl => ?_)
    have hP : va_P (dC, dI) vwCl [cl_X10 h_this h_this_dayAt h_this_secondAt h_this_spans h_this_kept h_this_text h_this_row h_this_read h_this_many h_this_first h_this_lengths h_this_page (upd i_this 9 (0 : Int32)) j_this, (h_this_dayAt, .inl (cI, 8, .inl f_this_dayAt)), (h_this_secondAt, .inl (cI, 8, .inl f_this_secondAt)), (h_this_spans, .inl (cI, 24, .inl f_this_spans)), (h_this_kept, .inl (cI, 40, .inl f_this_kept))] H := hP
    have hD : va_D A [cl_X10 h_this h_this_dayAt h_this_secondAt h_this_spans h_this_kept h_this_text h_this_row h_this_read h_this_many h_this_first h_this_lengths h_this_page (upd i_this 9 (0 : Int32)) j_this, (h_this_dayAt, .inl (cI, 8, .inl f_this_dayAt)), (h_this_secondAt, .inl (cI, 8, .inl f_this_secondAt)), (h_this_spans, .inl (cI, 24, .inl f_this_spans)), (h_this_kept, .inl (cI, 40, .inl f_this_kept))] := hD
    exact LP_16 N _ _ _ _ _ _ _ _ h (lv_sub hl [1, 0] rfl) hP hD hS
  have h := ite_t c11 h
  refine lv_iconst (v := (0 : Int32)) hx hb dX10_back_12 (by decide) ?_
  have hP : va_P (dC, dI) vwCl [cl_X10 h_this h_this_dayAt h_this_secondAt h_this_spans h_this_kept h_this_text h_this_row h_this_read h_this_many h_this_first h_this_lengths h_this_page (upd i_this 9 (0 : Int32)) j_this, (h_this_dayAt, .inl (cI, 8, .inl f_this_dayAt)), (h_this_secondAt, .inl (cI, 8, .inl f_this_secondAt)), (h_this_spans, .inl (cI, 24, .inl f_this_spans)), (h_this_kept, .inl (cI, 40, .inl f_this_kept))] H := hP
  have hD : va_D A [cl_X10 h_this h_this_dayAt h_this_secondAt h_this_spans h_this_kept h_this_text h_this_row h_this_read h_this_many h_this_first h_this_lengths h_this_page (upd i_this 9 (0 : Int32)) j_this, (h_this_dayAt, .inl (cI, 8, .inl f_this_dayAt)), (h_this_secondAt, .inl (cI, 8, .inl f_this_secondAt)), (h_this_spans, .inl (cI, 24, .inl f_this_spans)), (h_this_kept, .inl (cI, 40, .inl f_this_kept))] := hD
  obtain ⟨rfl, rfl, rfl, rfl, rfl⟩ := pj5 h
  exact hEnd _ _ _ _ hP hS dX10_back_13 rfl
noncomputable def fX10_count_j48 (N : Nat) (j_this : Nat → Int64) (f_this_dayAt : Nat → Int32) (f_this_secondAt : Nat → Int32) (f_this_spans : Nat → Int32) (K_12 : Int32 → Int32 → Int32 → Int32 → (Nat → Int32) → Option (Int32 × (Nat → Int32))) (v1 : Int32) (v3 : Int32) (v4 : Int32) (t0 : Int32) (t1 : Int32) (i_this : Nat → Int32) : Option (Int32 × (Nat → Int32)) := (nm (t1 ||| t0) fun z1 => (gi ((3 : Int32) * v4) 24 (if (f_this_spans ((3 : Int32) * v4).toNatClampNeg) = (0 : Int32) then (gi (((3 : Int32) * v4) + (1 : Int32)) 24 (if (f_this_spans (((3 : Int32) * v4) + (1 : Int32)).toNatClampNeg) = (0 : Int32) then (gi (((3 : Int32) * v4) + (2 : Int32)) 24 (if (f_this_spans (((3 : Int32) * v4) + (2 : Int32)).toNatClampNeg) = (0 : Int32) then (nm (v3 ||| (0 : Int32)) fun z12 => (nm (v4 + (1 : Int32)) fun z13 => (K_12 v1 z1 z12 z13 i_this))) else (nm (v3 ||| ((1 : Int32) <<< (v4 &&& 31))) fun z14 => (nm (v4 + (1 : Int32)) fun z15 => (K_12 v1 z1 z14 z15 i_this))))) else (nm (v3 ||| ((1 : Int32) <<< (v4 &&& 31))) fun z8 => (nm (v4 + (1 : Int32)) fun z9 => (K_12 v1 z1 z8 z9 i_this))))) else (nm (v3 ||| ((1 : Int32) <<< (v4 &&& 31))) fun z4 => (nm (v4 + (1 : Int32)) fun z5 => (K_12 v1 z1 z4 z5 i_this))))))
noncomputable def fX10_count_l12 (N : Nat) (j_this : Nat → Int64) (f_this_dayAt : Nat → Int32) (f_this_secondAt : Nat → Int32) (f_this_spans : Nat → Int32) (n : Nat) : Int32 → Int32 → Int32 → Int32 → (Nat → Int32) → Option (Int32 × (Nat → Int32)) := Nat.rec (motive := fun _ => Int32 → Int32 → Int32 → Int32 → (Nat → Int32) → Option (Int32 × (Nat → Int32))) (fun _ _ _ _ _ => none) (fun _ K_12 v1 v2 v3 v4 i_this => (if (8 : Int32) ≤ v4 then (if v1 = (0 : Int32) then (some (v2, i_this)) else (if v1 = (1 : Int32) then (some (v3, i_this)) else (if v1 = (2 : Int32) then (some ((i_this 8), i_this)) else (if v1 = (3 : Int32) then (some ((i_this 6), i_this)) else (some ((-1 : Int32), i_this)))))) else (gi v4 8 (if (f_this_dayAt v4.toNatClampNeg) = (0 : Int32) then (gi v4 8 (if (f_this_secondAt v4.toNatClampNeg) = (0 : Int32) then (fX10_count_j48 N j_this f_this_dayAt f_this_secondAt f_this_spans K_12 v1 v3 v4 (0 : Int32) v2 i_this) else (fX10_count_j48 N j_this f_this_dayAt f_this_secondAt f_this_spans K_12 v1 v3 v4 ((1 : Int32) <<< (v4 &&& 31)) v2 i_this))) else (fX10_count_j48 N j_this f_this_dayAt f_this_secondAt f_this_spans K_12 v1 v3 v4 ((1 : Int32) <<< (v4 &&& 31)) v2 i_this))))) n
theorem fX10_count_l12_s (N : Nat) (j_this : Nat → Int64) (f_this_dayAt : Nat → Int32) (f_this_secondAt : Nat → Int32) (f_this_spans : Nat → Int32) (n : Nat) (v1 : Int32) (v2 : Int32) (v3 : Int32) (v4 : Int32) (i_this : Nat → Int32) : fX10_count_l12 N j_this f_this_dayAt f_this_secondAt f_this_spans (n + 1) v1 v2 v3 v4 i_this = (if (8 : Int32) ≤ v4 then (if v1 = (0 : Int32) then (some (v2, i_this)) else (if v1 = (1 : Int32) then (some (v3, i_this)) else (if v1 = (2 : Int32) then (some ((i_this 8), i_this)) else (if v1 = (3 : Int32) then (some ((i_this 6), i_this)) else (some ((-1 : Int32), i_this)))))) else (gi v4 8 (if (f_this_dayAt v4.toNatClampNeg) = (0 : Int32) then (gi v4 8 (if (f_this_secondAt v4.toNatClampNeg) = (0 : Int32) then (fX10_count_j48 N j_this f_this_dayAt f_this_secondAt f_this_spans (fX10_count_l12 N j_this f_this_dayAt f_this_secondAt f_this_spans n) v1 v3 v4 (0 : Int32) v2 i_this) else (fX10_count_j48 N j_this f_this_dayAt f_this_secondAt f_this_spans (fX10_count_l12 N j_this f_this_dayAt f_this_secondAt f_this_spans n) v1 v3 v4 ((1 : Int32) <<< (v4 &&& 31)) v2 i_this))) else (fX10_count_j48 N j_this f_this_dayAt f_this_secondAt f_this_spans (fX10_count_l12 N j_this f_this_dayAt f_this_secondAt f_this_spans n) v1 v3 v4 ((1 : Int32) <<< (v4 &&& 31)) v2 i_this)))) := rfl
theorem fX10_count_l12_0 (N : Nat) (j_this : Nat → Int64) (f_this_dayAt : Nat → Int32) (f_this_secondAt : Nat → Int32) (f_this_spans : Nat → Int32) (v1 : Int32) (v2 : Int32) (v3 : Int32) (v4 : Int32) (i_this : Nat → Int32) : fX10_count_l12 N j_this f_this_dayAt f_this_secondAt f_this_spans 0 v1 v2 v3 v4 i_this = none := rfl
noncomputable def fX10_count (N : Nat) (p1 : Int32) (i_this : Nat → Int32) (j_this : Nat → Int64) (f_this_dayAt : Nat → Int32) (f_this_secondAt : Nat → Int32) (f_this_spans : Nat → Int32) : Option (Int32 × (Nat → Int32)) := (fX10_count_l12 N j_this f_this_dayAt f_this_secondAt f_this_spans N p1 (0 : Int32) (0 : Int32) (0 : Int32) (upd i_this 9 (0 : Int32)))
set_option maxHeartbeats 4000000 in
set_option maxRecDepth 100000 in
theorem kX10_count (l : Launch) (dC : Nat → ClassId) (dI : Nat → Nat → Nat) (cI cJ cB : ClassId) (h_this h_this_dayAt h_this_secondAt h_this_spans h_this_kept h_this_text h_this_row h_this_read h_this_many h_this_first h_this_lengths h_this_page : Nat) (N : Nat) (p1 : Int32) (i_this : Nat → Int32) (j_this : Nat → Int64) (f_this_dayAt : Nat → Int32) (f_this_secondAt : Nat → Int32) (f_this_spans : Nat → Int32) (r : Int32) (o_i_this : Nat → Int32) (hf : fX10_count N p1 i_this j_this f_this_dayAt f_this_secondAt f_this_spans = some (r, o_i_this)) : MI l yX10_count (kws yX10_count cX10_count 5 (some .int)) (kR 0 0) (dC, dI) (kT cI cJ cB) [.ref h_this, .int p1] [cl_X10 h_this h_this_dayAt h_this_secondAt h_this_spans h_this_kept h_this_text h_this_row h_this_read h_this_many h_this_first h_this_lengths h_this_page i_this j_this, (h_this_dayAt, .inl (cI, 8, .inl f_this_dayAt)), (h_this_secondAt, .inl (cI, 8, .inl f_this_secondAt)), (h_this_spans, .inl (cI, 24, .inl f_this_spans))] [cl_X10 h_this h_this_dayAt h_this_secondAt h_this_spans h_this_kept h_this_text h_this_row h_this_read h_this_many h_this_first h_this_lengths h_this_page o_i_this j_this, (h_this_dayAt, .inl (cI, 8, .inl f_this_dayAt)), (h_this_secondAt, .inl (cI, 8, .inl f_this_secondAt)), (h_this_spans, .inl (cI, 24, .inl f_this_spans))] r := by
  refine MI.of (cc := cX10_count) (maxL := 5) (by decide) (Nat.le_of_ble_eq_true rfl) (fun p e s m args below meth c A Q ls KC hN hK hP hD hA hl hEnd => ?_)
  obtain ⟨hx, hb, hml, hown, hts⟩ := KC
  have hown : s.vm.findClass "DateSpansModel" = some m.cls := hown
  have hl : lv_has ls 5 [(0, .ref h_this), (1, .int p1)] := hl
  have hS : va_S A s.heap s.heap [] := va_S.rf
  have LP_12 : ∀ n_12 : Nat, ∀ (v1 : Int32) (v2 : Int32) (v3 : Int32) (v4 : Int32) (i_this : Nat → Int32) (ls : Array Slot) (H : Heap) (locs : List Loc), fX10_count_l12 N j_this f_this_dayAt f_this_secondAt f_this_spans n_12 v1 v2 v3 v4 i_this = some (r, o_i_this) → lv_has ls 5 [(0, .ref h_this), (1, .int v1), (2, .int v2), (3, .int v3), (4, .int v4)] → va_P (dC, dI) vwCl [cl_X10 h_this h_this_dayAt h_this_secondAt h_this_spans h_this_kept h_this_text h_this_row h_this_read h_this_many h_this_first h_this_lengths h_this_page i_this j_this, (h_this_dayAt, .inl (cI, 8, .inl f_this_dayAt)), (h_this_secondAt, .inl (cI, 8, .inl f_this_secondAt)), (h_this_spans, .inl (cI, 24, .inl f_this_spans))] H → va_D A [cl_X10 h_this h_this_dayAt h_this_secondAt h_this_spans h_this_kept h_this_text h_this_row h_this_read h_this_many h_this_first h_this_lengths h_this_page i_this j_this, (h_this_dayAt, .inl (cI, 8, .inl f_this_dayAt)), (h_this_secondAt, .inl (cI, 8, .inl f_this_secondAt)), (h_this_spans, .inl (cI, 24, .inl f_this_spans))] → va_S A s.heap H locs → W p l e (kR 0 0) s m args below meth c H locs 0 0 Q (F0 m 12 ls []) := by
    intro n_12
    induction n_12 with
    | zero =>
      intro v1 v2 v3 v4 i_this ls H locs h hl hP hD hS
      rw [fX10_count_l12_0] at h; cases h
    | succ n_12 ih_12 =>
      have JN_48 : ∀ (v1 : Int32) (v3 : Int32) (v4 : Int32) (t0 : Int32) (t1 : Int32) (i_this : Nat → Int32) (ls : Array Slot) (H : Heap) (locs : List Loc), (fX10_count_j48 N j_this f_this_dayAt f_this_secondAt f_this_spans (fX10_count_l12 N j_this f_this_dayAt f_this_secondAt f_this_spans n_12)) v1 v3 v4 t0 t1 i_this = some (r, o_i_this) → lv_has ls 5 [(0, .ref h_this), (1, .int v1), (3, .int v3), (4, .int v4)] → va_P (dC, dI) vwCl [cl_X10 h_this h_this_dayAt h_this_secondAt h_this_spans h_this_kept h_this_text h_this_row h_this_read h_this_many h_this_first h_this_lengths h_this_page i_this j_this, (h_this_dayAt, .inl (cI, 8, .inl f_this_dayAt)), (h_this_secondAt, .inl (cI, 8, .inl f_this_secondAt)), (h_this_spans, .inl (cI, 24, .inl f_this_spans))] H → va_D A [cl_X10 h_this h_this_dayAt h_this_secondAt h_this_spans h_this_kept h_this_text h_this_row h_this_read h_this_many h_this_first h_this_lengths h_this_page i_this j_this, (h_this_dayAt, .inl (cI, 8, .inl f_this_dayAt)), (h_this_secondAt, .inl (cI, 8, .inl f_this_secondAt)), (h_this_spans, .inl (cI, 24, .inl f_this_spans))] → va_S A s.heap H locs → W p l e (kR 0 0) s m args below meth c H locs 0 0 Q (F0 m 48 ls [.int t0, .int t1]) := by
        intro v1 v3 v4 t0 t1 i_this ls H locs h hl hP hD hS
        unfold fX10_count_j48 at h
        refine lv_ior hx hb dX10_count_48 ?_
        refine lv_topi (fun z1 ez1 => ?_)
        have h := nm_at ez1 h
        refine lv_istore_n (lv' := [(2, .int z1), (0, .ref h_this), (1, .int v1), (3, .int v3), (4, .int v4)]) hx hb dX10_count_49 rfl hl (by decide) rfl (fun ls hl => ?_)
        refine lv_iload_n hx hb dX10_count_50 rfl (lv_at hl 3 rfl) ?_
        refine lv_aload_n hx hb dX10_count_51 rfl (lv_at hl 1 rfl) ?_
        refine va_get (D := (dC, dI)) (ci := 9) (v := .ref h_this_spans) (C := RX10) (T := TX10) (N := 29) hx hb hts inX10 hown hK hP 0 rfl rfl 2 (by decide) (hts _ (kq q_988 rfl)) (fun _ h9 => h9) rfl dX10_count_52 ?_
        refine lv_iconst (v := (3 : Int32)) hx hb dX10_count_55 (by decide) ?_
        refine lv_iload hx hb dX10_count_56 (lv_at hl 4 rfl) ?_
        refine lv_imul hx hb dX10_count_58 ?_
        obtain ⟨hi2, h⟩ := gi_at h
        refine va_iald hx hb hK hP 3 0 rfl rfl hi2 dX10_count_59 ?_
        refine lv_if_ne (tgt := 91) hx hb dX10_count_60 (by decide) (fun c3 => ?_) (fun c3 => ?_)
        · have h := ite_f c3 h
          refine lv_iconst (v := (1 : Int32)) hx hb dX10_count_91 (by decide) ?_
          refine lv_iload hx hb dX10_count_92 (lv_at hl 4 rfl) ?_
          refine lv_ishl hx hb dX10_count_94 ?_
          refine lv_goto (tgt := 99) hx hb dX10_count_95 (by decide) ?_
          refine lv_ior hx hb dX10_count_99 ?_
          refine lv_topi (fun z4 ez4 => ?_)
          have h := nm_at ez4 h
          refine lv_istore_n (lv' := [(3, .int z4), (2, .int z1), (0, .ref h_this), (1, .int v1), (4, .int v4)]) hx hb dX10_count_100 rfl hl (by decide) rfl (fun ls hl => ?_)
          obtain ⟨z5, ez5⟩ : ∃ y : Int32, y = (v4 + (1 : Int32)) := ⟨_, rfl⟩
          have h := nm_at ez5 h
          refine lv_iinc (v := z5) (lv' := [(4, .int z5), (3, .int z4), (2, .int z1), (0, .ref h_this), (1, .int v1)]) hx hb dX10_count_101 hl (k := 4) rfl (by rw [ez5]; rfl) (by decide) rfl (fun ls hl => ?_)
          refine lv_goto (tgt := 12) hx hb dX10_count_104 (by decide) ?_
          exact ih_12 _ _ _ _ _ _ _ _ h (lv_sub hl [3, 4, 2, 1, 0] rfl) hP hD hS
        have h := ite_t c3 h
        refine lv_aload_n hx hb dX10_count_63 rfl (lv_at hl 1 rfl) ?_
        refine va_get (D := (dC, dI)) (ci := 9) (v := .ref h_this_spans) (C := RX10) (T := TX10) (N := 29) hx hb hts inX10 hown hK hP 0 rfl rfl 2 (by decide) (hts _ (kq q_988 rfl)) (fun _ h9 => h9) rfl dX10_count_64 ?_
        refine lv_iconst (v := (3 : Int32)) hx hb dX10_count_67 (by decide) ?_
        refine lv_iload hx hb dX10_count_68 (lv_at hl 4 rfl) ?_
        refine lv_imul hx hb dX10_count_70 ?_
        refine lv_iconst (v := (1 : Int32)) hx hb dX10_count_71 (by decide) ?_
        refine lv_iadd hx hb dX10_count_72 ?_
        obtain ⟨hi6, h⟩ := gi_at h
        refine va_iald hx hb hK hP 3 0 rfl rfl hi6 dX10_count_73 ?_
        refine lv_if_ne (tgt := 91) hx hb dX10_count_74 (by decide) (fun c7 => ?_) (fun c7 => ?_)
        · have h := ite_f c7 h
          refine lv_iconst (v := (1 : Int32)) hx hb dX10_count_91 (by decide) ?_
          refine lv_iload hx hb dX10_count_92 (lv_at hl 4 rfl) ?_
          refine lv_ishl hx hb dX10_count_94 ?_
          refine lv_goto (tgt := 99) hx hb dX10_count_95 (by decide) ?_
          refine lv_ior hx hb dX10_count_99 ?_
          refine lv_topi (fun z8 ez8 => ?_)
          have h := nm_at ez8 h
          refine lv_istore_n (lv' := [(3, .int z8), (2, .int z1), (0, .ref h_this), (1, .int v1), (4, .int v4)]) hx hb dX10_count_100 rfl hl (by decide) rfl (fun ls hl => ?_)
          obtain ⟨z9, ez9⟩ : ∃ y : Int32, y = (v4 + (1 : Int32)) := ⟨_, rfl⟩
          have h := nm_at ez9 h
          refine lv_iinc (v := z9) (lv' := [(4, .int z9), (3, .int z8), (2, .int z1), (0, .ref h_this), (1, .int v1)]) hx hb dX10_count_101 hl (k := 4) rfl (by rw [ez9]; rfl) (by decide) rfl (fun ls hl => ?_)
          refine lv_goto (tgt := 12) hx hb dX10_count_104 (by decide) ?_
          exact ih_12 _ _ _ _ _ _ _ _ h (lv_sub hl [3, 4, 2, 1, 0] rfl) hP hD hS
        have h := ite_t c7 h
        refine lv_aload_n hx hb dX10_count_77 rfl (lv_at hl 1 rfl) ?_
        refine va_get (D := (dC, dI)) (ci := 9) (v := .ref h_this_spans) (C := RX10) (T := TX10) (N := 29) hx hb hts inX10 hown hK hP 0 rfl rfl 2 (by decide) (hts _ (kq q_988 rfl)) (fun _ h9 => h9) rfl dX10_count_78 ?_
        refine lv_iconst (v := (3 : Int32)) hx hb dX10_count_81 (by decide) ?_
        refine lv_iload hx hb dX10_count_82 (lv_at hl 4 rfl) ?_
        refine lv_imul hx hb dX10_count_84 ?_
        refine lv_iconst (v := (2 : Int32)) hx hb dX10_count_85 (by decide) ?_
        refine lv_iadd hx hb dX10_count_86 ?_
        obtain ⟨hi10, h⟩ := gi_at h
        refine va_iald hx hb hK hP 3 0 rfl rfl hi10 dX10_count_87 ?_
        refine lv_if_eq (tgt := 98) hx hb dX10_count_88 (by decide) (fun c11 => ?_) (fun c11 => ?_)
        · have h := ite_t c11 h
          refine lv_iconst (v := (0 : Int32)) hx hb dX10_count_98 (by decide) ?_
          refine lv_ior hx hb dX10_count_99 ?_
          refine lv_topi (fun z12 ez12 => ?_)
          have h := nm_at ez12 h
          refine lv_istore_n (lv' := [(3, .int z12), (2, .int z1), (0, .ref h_this), (1, .int v1), (4, .int v4)]) hx hb dX10_count_100 rfl hl (by decide) rfl (fun ls hl => ?_)
          obtain ⟨z13, ez13⟩ : ∃ y : Int32, y = (v4 + (1 : Int32)) := ⟨_, rfl⟩
          have h := nm_at ez13 h
          refine lv_iinc (v := z13) (lv' := [(4, .int z13), (3, .int z12), (2, .int z1), (0, .ref h_this), (1, .int v1)]) hx hb dX10_count_101 hl (k := 4) rfl (by rw [ez13]; rfl) (by decide) rfl (fun ls hl => ?_)
          refine lv_goto (tgt := 12) hx hb dX10_count_104 (by decide) ?_
          exact ih_12 _ _ _ _ _ _ _ _ h (lv_sub hl [3, 4, 2, 1, 0] rfl) hP hD hS
        have h := ite_f c11 h
        refine lv_iconst (v := (1 : Int32)) hx hb dX10_count_91 (by decide) ?_
        refine lv_iload hx hb dX10_count_92 (lv_at hl 4 rfl) ?_
        refine lv_ishl hx hb dX10_count_94 ?_
        refine lv_goto (tgt := 99) hx hb dX10_count_95 (by decide) ?_
        refine lv_ior hx hb dX10_count_99 ?_
        refine lv_topi (fun z14 ez14 => ?_)
        have h := nm_at ez14 h
        refine lv_istore_n (lv' := [(3, .int z14), (2, .int z1), (0, .ref h_this), (1, .int v1), (4, .int v4)]) hx hb dX10_count_100 rfl hl (by decide) rfl (fun ls hl => ?_)
        obtain ⟨z15, ez15⟩ : ∃ y : Int32, y = (v4 + (1 : Int32)) := ⟨_, rfl⟩
        have h := nm_at ez15 h
        refine lv_iinc (v := z15) (lv' := [(4, .int z15), (3, .int z14), (2, .int z1), (0, .ref h_this), (1, .int v1)]) hx hb dX10_count_101 hl (k := 4) rfl (by rw [ez15]; rfl) (by decide) rfl (fun ls hl => ?_)
        refine lv_goto (tgt := 12) hx hb dX10_count_104 (by decide) ?_
        exact ih_12 _ _ _ _ _ _ _ _ h (lv_sub hl [3, 4, 2, 1, 0] rfl) hP hD hS
      intro v1 v2 v3 v4 i_this ls H locs h hl hP hD hS
      rw [fX10_count_l12_s] at h
      refine lv_iload hx hb dX10_count_12 (lv_at hl 4 rfl) ?_
      refine lv_bipush (v := (8 : Int32)) hx hb dX10_count_14 (by decide) ?_
      refine lv_icmp_ge (tgt := 107) hx hb dX10_count_16 (by decide) (fun c16 => ?_) (fun c16 => ?_)
      · have h := ite_t c16 h
        refine lv_iload_n hx hb dX10_count_107 rfl (lv_at hl 1 rfl) ?_
        by_cases c17 : v1 = (0 : Int32)
        · have h := ite_t c17 h
          refine lv_tableIn (x := v1) (tgt := 140) hx hb dX10_count_108 (by rw [c17]; decide) (by rw [c17]; decide) (by rw [c17]; rfl) (by decide) ?_
          refine lv_iload_n hx hb dX10_count_140 rfl (lv_at hl 2 rfl) ?_
          obtain ⟨rfl, rfl⟩ := pj2 h
          exact hEnd _ _ _ _ hP hS dX10_count_141 rfl
        have h := ite_f c17 h
        by_cases c18 : v1 = (1 : Int32)
        · have h := ite_t c18 h
          refine lv_tableIn (x := v1) (tgt := 142) hx hb dX10_count_108 (by rw [c18]; decide) (by rw [c18]; decide) (by rw [c18]; rfl) (by decide) ?_
          refine lv_iload_n hx hb dX10_count_142 rfl (lv_at hl 3 rfl) ?_
          obtain ⟨rfl, rfl⟩ := pj2 h
          exact hEnd _ _ _ _ hP hS dX10_count_143 rfl
        have h := ite_f c18 h
        by_cases c19 : v1 = (2 : Int32)
        · have h := ite_t c19 h
          refine lv_tableIn (x := v1) (tgt := 144) hx hb dX10_count_108 (by rw [c19]; decide) (by rw [c19]; decide) (by rw [c19]; rfl) (by decide) ?_
          refine lv_aload_n hx hb dX10_count_144 rfl (lv_at hl 0 rfl) ?_
          refine va_get (D := (dC, dI)) (ci := 9) (v := .int (i_this 8)) (C := RX10) (T := TX10) (N := 29) hx hb hts inX10 hown hK hP 0 rfl rfl 8 (by decide) (hts _ (kq q_994 rfl)) (fun _ h9 => h9) rfl dX10_count_145 ?_
          obtain ⟨rfl, rfl⟩ := pj2 h
          exact hEnd _ _ _ _ hP hS dX10_count_148 rfl
        have h := ite_f c19 h
        by_cases c20 : v1 = (3 : Int32)
        · have h := ite_t c20 h
          refine lv_tableIn (x := v1) (tgt := 149) hx hb dX10_count_108 (by rw [c20]; decide) (by rw [c20]; decide) (by rw [c20]; rfl) (by decide) ?_
          refine lv_aload_n hx hb dX10_count_149 rfl (lv_at hl 0 rfl) ?_
          refine va_get (D := (dC, dI)) (ci := 9) (v := .int (i_this 6)) (C := RX10) (T := TX10) (N := 29) hx hb hts inX10 hown hK hP 0 rfl rfl 6 (by decide) (hts _ (kq q_992 rfl)) (fun _ h9 => h9) rfl dX10_count_150 ?_
          obtain ⟨rfl, rfl⟩ := pj2 h
          exact hEnd _ _ _ _ hP hS dX10_count_153 rfl
        have h := ite_f c20 h
        have gc17 := kne (k := 0) (by decide) c17
        have gc18 := kne (k := 1) (by decide) c18
        have gc19 := kne (k := 2) (by decide) c19
        have gc20 := kne (k := 3) (by decide) c20
        refine lv_tableOut (x := v1) (tgt := 154) hx hb dX10_count_108 (by omega) (by decide) ?_
        refine lv_iconst (v := (-1 : Int32)) hx hb dX10_count_154 (by decide) ?_
        obtain ⟨rfl, rfl⟩ := pj2 h
        exact hEnd _ _ _ _ hP hS dX10_count_155 rfl
      have h := ite_f c16 h
      refine lv_iload_n hx hb dX10_count_19 rfl (lv_at hl 2 rfl) ?_
      refine lv_aload_n hx hb dX10_count_20 rfl (lv_at hl 0 rfl) ?_
      refine va_get (D := (dC, dI)) (ci := 9) (v := .ref h_this_dayAt) (C := RX10) (T := TX10) (N := 29) hx hb hts inX10 hown hK hP 0 rfl rfl 0 (by decide) (hts _ (kq q_986 rfl)) (fun _ h9 => h9) rfl dX10_count_21 ?_
      refine lv_iload hx hb dX10_count_24 (lv_at hl 4 rfl) ?_
      obtain ⟨hi21, h⟩ := gi_at h
      refine va_iald hx hb hK hP 1 0 rfl rfl hi21 dX10_count_26 ?_
      refine lv_if_ne (tgt := 40) hx hb dX10_count_27 (by decide) (fun c22 => ?_) (fun c22 => ?_)
      · have h := ite_f c22 h
        refine lv_iconst (v := (1 : Int32)) hx hb dX10_count_40 (by decide) ?_
        refine lv_iload hx hb dX10_count_41 (lv_at hl 4 rfl) ?_
        refine lv_ishl hx hb dX10_count_43 ?_
        refine lv_goto (tgt := 48) hx hb dX10_count_44 (by decide) ?_
        exact JN_48 _ _ _ _ _ _ _ _ _ h (lv_sub hl [0, 1, 3, 4] rfl) hP hD hS
      have h := ite_t c22 h
      refine lv_aload_n hx hb dX10_count_30 rfl (lv_at hl 0 rfl) ?_
      refine va_get (D := (dC, dI)) (ci := 9) (v := .ref h_this_secondAt) (C := RX10) (T := TX10) (N := 29) hx hb hts inX10 hown hK hP 0 rfl rfl 1 (by decide) (hts _ (kq q_987 rfl)) (fun _ h9 => h9) rfl dX10_count_31 ?_
      refine lv_iload hx hb dX10_count_34 (lv_at hl 4 rfl) ?_
      obtain ⟨hi23, h⟩ := gi_at h
      refine va_iald hx hb hK hP 2 0 rfl rfl hi23 dX10_count_36 ?_
      refine lv_if_eq (tgt := 47) hx hb dX10_count_37 (by decide) (fun c24 => ?_) (fun c24 => ?_)
      · have h := ite_t c24 h
        refine lv_iconst (v := (0 : Int32)) hx hb dX10_count_47 (by decide) ?_
        exact JN_48 _ _ _ _ _ _ _ _ _ h (lv_sub hl [0, 1, 3, 4] rfl) hP hD hS
      have h := ite_f c24 h
      refine lv_iconst (v := (1 : Int32)) hx hb dX10_count_40 (by decide) ?_
      refine lv_iload hx hb dX10_count_41 (lv_at hl 4 rfl) ?_
      refine lv_ishl hx hb dX10_count_43 ?_
      refine lv_goto (tgt := 48) hx hb dX10_count_44 (by decide) ?_
      exact JN_48 _ _ _ _ _ _ _ _ _ h (lv_sub hl [0, 1, 3, 4] rfl) hP hD hS
  have h := hf
  unfold fX10_count at h
  refine lv_aload_n hx hb dX10_count_0 rfl (lv_at hl 0 rfl) ?_
  refine lv_iconst (v := (0 : Int32)) hx hb dX10_count_1 (by decide) ?_
  refine va_put (D := (dC, dI)) (ci := 9) (v := .int (0 : Int32)) (ty := .int) (C := RX10) (T := TX10) (N := 29) hx hb hts inX10 tyX10 tyX10_ok nmX10 hown hK hP hD hS 0 rfl rfl 9 (by decide) (hts _ (kq q_995 rfl)) (fun _ h9 => h9) rfl (by decide +kernel) rfl rfl (Nat.le_of_ble_eq_true rfl) dX10_count_2 (fun H locs hP hD hS => ?_)
  have hP : va_P (dC, dI) vwCl [(h_this, .inr (9, [.ref h_this_dayAt, .ref h_this_secondAt, .ref h_this_spans, .ref h_this_kept, .int (i_this 4), .ref h_this_text, .int (i_this 6), .ref h_this_row, .int (i_this 8), .int (0 : Int32), .int (i_this 10), .int (i_this 11), .int (i_this 12), .int (i_this 13), .int (i_this 14), .int (i_this 15), .int (i_this 16), .int (i_this 17), .int (i_this 18), .ref h_this_read, .long (j_this 20), .ref h_this_many, .ref h_this_first, .ref h_this_lengths, .int (i_this 24), .long (j_this 25), .long (j_this 26), .ref h_this_page, .int (i_this 28)])), (h_this_dayAt, .inl (cI, 8, .inl f_this_dayAt)), (h_this_secondAt, .inl (cI, 8, .inl f_this_secondAt)), (h_this_spans, .inl (cI, 24, .inl f_this_spans))] H := hP
  have hD : va_D A [(h_this, .inr (9, [.ref h_this_dayAt, .ref h_this_secondAt, .ref h_this_spans, .ref h_this_kept, .int (i_this 4), .ref h_this_text, .int (i_this 6), .ref h_this_row, .int (i_this 8), .int (0 : Int32), .int (i_this 10), .int (i_this 11), .int (i_this 12), .int (i_this 13), .int (i_this 14), .int (i_this 15), .int (i_this 16), .int (i_this 17), .int (i_this 18), .ref h_this_read, .long (j_this 20), .ref h_this_many, .ref h_this_first, .ref h_this_lengths, .int (i_this 24), .long (j_this 25), .long (j_this 26), .ref h_this_page, .int (i_this 28)])), (h_this_dayAt, .inl (cI, 8, .inl f_this_dayAt)), (h_this_secondAt, .inl (cI, 8, .inl f_this_secondAt)), (h_this_spans, .inl (cI, 24, .inl f_this_spans))] := hD
  refine lv_iconst (v := (0 : Int32)) hx hb dX10_count_5 (by decide) ?_
  refine lv_istore_n (lv' := [(2, .int (0 : Int32)), (0, .ref h_this), (1, .int p1)]) hx hb dX10_count_6 rfl hl (by decide) rfl (fun ls hl => ?_)
  refine lv_iconst (v := (0 : Int32)) hx hb dX10_count_7 (by decide) ?_
  refine lv_istore_n (lv' := [(3, .int (0 : Int32)), (2, .int (0 : Int32)), (0, .ref h_this), (1, .int p1)]) hx hb dX10_count_8 rfl hl (by decide) rfl (fun ls hl => ?_)
  refine lv_iconst (v := (0 : Int32)) hx hb dX10_count_9 (by decide) ?_
  refine lv_istore (lv' := [(4, .int (0 : Int32)), (3, .int (0 : Int32)), (2, .int (0 : Int32)), (0, .ref h_this), (1, .int p1)]) hx hb dX10_count_10 hl (by decide) rfl (fun ls hl => ?_)
  have hP : va_P (dC, dI) vwCl [cl_X10 h_this h_this_dayAt h_this_secondAt h_this_spans h_this_kept h_this_text h_this_row h_this_read h_this_many h_this_first h_this_lengths h_this_page (upd i_this 9 (0 : Int32)) j_this, (h_this_dayAt, .inl (cI, 8, .inl f_this_dayAt)), (h_this_secondAt, .inl (cI, 8, .inl f_this_secondAt)), (h_this_spans, .inl (cI, 24, .inl f_this_spans))] H := hP
  have hD : va_D A [cl_X10 h_this h_this_dayAt h_this_secondAt h_this_spans h_this_kept h_this_text h_this_row h_this_read h_this_many h_this_first h_this_lengths h_this_page (upd i_this 9 (0 : Int32)) j_this, (h_this_dayAt, .inl (cI, 8, .inl f_this_dayAt)), (h_this_secondAt, .inl (cI, 8, .inl f_this_secondAt)), (h_this_spans, .inl (cI, 24, .inl f_this_spans))] := hD
  exact LP_12 N _ _ _ _ _ _ _ _ h (lv_sub hl [3, 4, 2, 1, 0] rfl) hP hD hS
noncomputable def fX10_lost (N : Nat) (i_this : Nat → Int32) (j_this : Nat → Int64) : Option (Int32 × (Nat → Int32)) := (some ((0 : Int32), (upd i_this 9 (1 : Int32))))
set_option maxHeartbeats 4000000 in
set_option maxRecDepth 100000 in
theorem kX10_lost (l : Launch) (dC : Nat → ClassId) (dI : Nat → Nat → Nat) (cI cJ cB : ClassId) (h_this h_this_dayAt h_this_secondAt h_this_spans h_this_kept h_this_text h_this_row h_this_read h_this_many h_this_first h_this_lengths h_this_page : Nat) (N : Nat) (i_this : Nat → Int32) (j_this : Nat → Int64) (r : Int32) (o_i_this : Nat → Int32) (hf : fX10_lost N i_this j_this = some (r, o_i_this)) : MI l yX10_lost (kws yX10_lost cX10_lost 1 (some .int)) (kR 0 0) (dC, dI) (kT cI cJ cB) [.ref h_this] [cl_X10 h_this h_this_dayAt h_this_secondAt h_this_spans h_this_kept h_this_text h_this_row h_this_read h_this_many h_this_first h_this_lengths h_this_page i_this j_this] [cl_X10 h_this h_this_dayAt h_this_secondAt h_this_spans h_this_kept h_this_text h_this_row h_this_read h_this_many h_this_first h_this_lengths h_this_page o_i_this j_this] r := by
  refine MI.of (cc := cX10_lost) (maxL := 1) (by decide) (Nat.le_of_ble_eq_true rfl) (fun p e s m args below meth c A Q ls KC hN hK hP hD hA hl hEnd => ?_)
  obtain ⟨hx, hb, hml, hown, hts⟩ := KC
  have hown : s.vm.findClass "DateSpansModel" = some m.cls := hown
  have hl : lv_has ls 1 [(0, .ref h_this)] := hl
  have hS : va_S A s.heap s.heap [] := va_S.rf
  have h := hf
  unfold fX10_lost at h
  refine lv_aload_n hx hb dX10_lost_0 rfl (lv_at hl 0 rfl) ?_
  refine lv_iconst (v := (1 : Int32)) hx hb dX10_lost_1 (by decide) ?_
  refine va_put (D := (dC, dI)) (ci := 9) (v := .int (1 : Int32)) (ty := .int) (C := RX10) (T := TX10) (N := 29) hx hb hts inX10 tyX10 tyX10_ok nmX10 hown hK hP hD hS 0 rfl rfl 9 (by decide) (hts _ (kq q_995 rfl)) (fun _ h9 => h9) rfl (by decide +kernel) rfl rfl (Nat.le_of_ble_eq_true rfl) dX10_lost_2 (fun H locs hP hD hS => ?_)
  have hP : va_P (dC, dI) vwCl [(h_this, .inr (9, [.ref h_this_dayAt, .ref h_this_secondAt, .ref h_this_spans, .ref h_this_kept, .int (i_this 4), .ref h_this_text, .int (i_this 6), .ref h_this_row, .int (i_this 8), .int (1 : Int32), .int (i_this 10), .int (i_this 11), .int (i_this 12), .int (i_this 13), .int (i_this 14), .int (i_this 15), .int (i_this 16), .int (i_this 17), .int (i_this 18), .ref h_this_read, .long (j_this 20), .ref h_this_many, .ref h_this_first, .ref h_this_lengths, .int (i_this 24), .long (j_this 25), .long (j_this 26), .ref h_this_page, .int (i_this 28)]))] H := hP
  have hD : va_D A [(h_this, .inr (9, [.ref h_this_dayAt, .ref h_this_secondAt, .ref h_this_spans, .ref h_this_kept, .int (i_this 4), .ref h_this_text, .int (i_this 6), .ref h_this_row, .int (i_this 8), .int (1 : Int32), .int (i_this 10), .int (i_this 11), .int (i_this 12), .int (i_this 13), .int (i_this 14), .int (i_this 15), .int (i_this 16), .int (i_this 17), .int (i_this 18), .ref h_this_read, .long (j_this 20), .ref h_this_many, .ref h_this_first, .ref h_this_lengths, .int (i_this 24), .long (j_this 25), .long (j_this 26), .ref h_this_page, .int (i_this 28)]))] := hD
  refine lv_iconst (v := (0 : Int32)) hx hb dX10_lost_5 (by decide) ?_
  have hP : va_P (dC, dI) vwCl [cl_X10 h_this h_this_dayAt h_this_secondAt h_this_spans h_this_kept h_this_text h_this_row h_this_read h_this_many h_this_first h_this_lengths h_this_page (upd i_this 9 (1 : Int32)) j_this] H := hP
  have hD : va_D A [cl_X10 h_this h_this_dayAt h_this_secondAt h_this_spans h_this_kept h_this_text h_this_row h_this_read h_this_many h_this_first h_this_lengths h_this_page (upd i_this 9 (1 : Int32)) j_this] := hD
  obtain ⟨rfl, rfl⟩ := pj2 h
  exact hEnd _ _ _ _ hP hS dX10_lost_6 rfl
noncomputable def fX10_row (N : Nat) (p1 : Int32) (i_this : Nat → Int32) (j_this : Nat → Int64) (f_this_row : Nat → Int64) : Option (Int64 × (Nat → Int32)) := (bd1 (fX10_in N p1.toInt64 (0 : Int64) (((i_this 8) - (1 : Int32)).toInt64)) fun r1 => (if r1 = (0 : Int32) then (bd2 (fX10_lost N (upd i_this 9 (0 : Int32)) j_this) fun r4 i_this_5 => (some (r4.toInt64, i_this_5))) else (gi p1 16 (some ((f_this_row p1.toNatClampNeg), (upd i_this 9 (0 : Int32)))))))
set_option maxHeartbeats 4000000 in
set_option maxRecDepth 100000 in
theorem kX10_row (l : Launch) (dC : Nat → ClassId) (dI : Nat → Nat → Nat) (cI cJ cB : ClassId) (h_this h_this_dayAt h_this_secondAt h_this_spans h_this_kept h_this_text h_this_row h_this_read h_this_many h_this_first h_this_lengths h_this_page : Nat) (N : Nat) (p1 : Int32) (i_this : Nat → Int32) (j_this : Nat → Int64) (f_this_row : Nat → Int64) (r : Int64) (o_i_this : Nat → Int32) (hf : fX10_row N p1 i_this j_this f_this_row = some (r, o_i_this)) : ML l yX10_row (kws yX10_row cX10_row 2 (some .long)) (kR 1 25) (dC, dI) (kT cI cJ cB) [.ref h_this, .int p1] [cl_X10 h_this h_this_dayAt h_this_secondAt h_this_spans h_this_kept h_this_text h_this_row h_this_read h_this_many h_this_first h_this_lengths h_this_page i_this j_this, (h_this_row, .inl (cJ, 16, .inr (.inl f_this_row)))] [cl_X10 h_this h_this_dayAt h_this_secondAt h_this_spans h_this_kept h_this_text h_this_row h_this_read h_this_many h_this_first h_this_lengths h_this_page o_i_this j_this, (h_this_row, .inl (cJ, 16, .inr (.inl f_this_row)))] r := by
  refine ML.of (cc := cX10_row) (maxL := 2) (by decide) (Nat.le_of_ble_eq_true rfl) (fun p e s m args below meth c A Q ls KC hN hK hP hD hA hl hEnd => ?_)
  obtain ⟨hx, hb, hml, hown, hts⟩ := KC
  have hown : s.vm.findClass "DateSpansModel" = some m.cls := hown
  have hl : lv_has ls 2 [(0, .ref h_this), (1, .int p1)] := hl
  have hS : va_S A s.heap s.heap [] := va_S.rf
  have h := hf
  unfold fX10_row at h
  refine lv_aload_n hx hb dX10_row_0 rfl (lv_at hl 0 rfl) ?_
  refine lv_iconst (v := (0 : Int32)) hx hb dX10_row_1 (by decide) ?_
  refine va_put (D := (dC, dI)) (ci := 9) (v := .int (0 : Int32)) (ty := .int) (C := RX10) (T := TX10) (N := 29) hx hb hts inX10 tyX10 tyX10_ok nmX10 hown hK hP hD hS 0 rfl rfl 9 (by decide) (hts _ (kq q_995 rfl)) (fun _ h9 => h9) rfl (by decide +kernel) rfl rfl (Nat.le_of_ble_eq_true rfl) dX10_row_2 (fun H locs hP hD hS => ?_)
  have hP : va_P (dC, dI) vwCl [(h_this, .inr (9, [.ref h_this_dayAt, .ref h_this_secondAt, .ref h_this_spans, .ref h_this_kept, .int (i_this 4), .ref h_this_text, .int (i_this 6), .ref h_this_row, .int (i_this 8), .int (0 : Int32), .int (i_this 10), .int (i_this 11), .int (i_this 12), .int (i_this 13), .int (i_this 14), .int (i_this 15), .int (i_this 16), .int (i_this 17), .int (i_this 18), .ref h_this_read, .long (j_this 20), .ref h_this_many, .ref h_this_first, .ref h_this_lengths, .int (i_this 24), .long (j_this 25), .long (j_this 26), .ref h_this_page, .int (i_this 28)])), (h_this_row, .inl (cJ, 16, .inr (.inl f_this_row)))] H := hP
  have hD : va_D A [(h_this, .inr (9, [.ref h_this_dayAt, .ref h_this_secondAt, .ref h_this_spans, .ref h_this_kept, .int (i_this 4), .ref h_this_text, .int (i_this 6), .ref h_this_row, .int (i_this 8), .int (0 : Int32), .int (i_this 10), .int (i_this 11), .int (i_this 12), .int (i_this 13), .int (i_this 14), .int (i_this 15), .int (i_this 16), .int (i_this 17), .int (i_this 18), .ref h_this_read, .long (j_this 20), .ref h_this_many, .ref h_this_first, .ref h_this_lengths, .int (i_this 24), .long (j_this 25), .long (j_this 26), .ref h_this_page, .int (i_this 28)])), (h_this_row, .inl (cJ, 16, .inr (.inl f_this_row)))] := hD
  refine lv_iload_n hx hb dX10_row_5 rfl (lv_at hl 1 rfl) ?_
  refine lv_i2l hx hb dX10_row_6 rfl ?_
  refine lv_lconst (v := (0 : Int64)) hx hb dX10_row_7 (by decide) ?_
  refine lv_aload_n hx hb dX10_row_8 rfl (lv_at hl 0 rfl) ?_
  refine va_get (D := (dC, dI)) (ci := 9) (v := .int (i_this 8)) (C := RX10) (T := TX10) (N := 29) hx hb hts inX10 hown hK hP 0 rfl rfl 8 (by decide) (hts _ (kq q_994 rfl)) (fun _ h9 => h9) rfl dX10_row_9 ?_
  refine lv_iconst (v := (1 : Int32)) hx hb dX10_row_12 (by decide) ?_
  refine lv_isub hx hb dX10_row_13 ?_
  refine lv_i2l hx hb dX10_row_14 rfl ?_
  have hP : va_P (dC, dI) vwCl [cl_X10 h_this h_this_dayAt h_this_secondAt h_this_spans h_this_kept h_this_text h_this_row h_this_read h_this_many h_this_first h_this_lengths h_this_page (upd i_this 9 (0 : Int32)) j_this, (h_this_row, .inl (cJ, 16, .inr (.inl f_this_row)))] H := hP
  have hD : va_D A [cl_X10 h_this h_this_dayAt h_this_secondAt h_this_spans h_this_kept h_this_text h_this_row h_this_read h_this_many h_this_first h_this_lengths h_this_page (upd i_this 9 (0 : Int32)) j_this, (h_this_row, .inl (cJ, 16, .inr (.inl f_this_row)))] := hD
  obtain ⟨r1, hc2, h⟩ := bd1_at h
  refine kjSI (kS0 (own := "DateSpansModel") (As := [.long p1.toInt64, .long (0 : Int64), .long (((i_this 8) - (1 : Int32)).toInt64)]) (rest := []) ⟨hx, hb, hml, hown, hts⟩ (kX10_in l N p1.toInt64 (0 : Int64) (((i_this 8) - (1 : Int32)).toInt64) r1 hc2) (kgS (kq q_1086 rfl) (kq q_1087 rfl) (kq q_66 rfl) (kq q_1088 rfl)) yd_X10_in ⟨Nat.le_of_ble_eq_true rfl, Nat.le_of_ble_eq_true rfl⟩ rfl rfl hl.1 rfl (lv_room (Nat.le_of_ble_eq_true rfl)) dX10_row_15) ?_
  refine lv_if_eq (tgt := 30) hx hb dX10_row_18 (by decide) (fun c3 => ?_) (fun c3 => ?_)
  · have h := ite_t c3 h
    refine lv_aload_n hx hb dX10_row_30 rfl (lv_at hl 0 rfl) ?_
    obtain ⟨r4, i_this_5, hc6, h⟩ := bd2_at h
    refine kjI (kV (own := "DateSpansModel") (C := "DateSpansModel") (b := h_this) (As := []) (rest := []) ⟨hx, hb, hml, hown, hts⟩ (kX10_lost l dC dI cI cJ cB h_this h_this_dayAt h_this_secondAt h_this_spans h_this_kept h_this_text h_this_row h_this_read h_this_many h_this_first h_this_lengths h_this_page N (upd i_this 9 (0 : Int32)) j_this r4 i_this_5 hc6 _) (kgV (kq q_1572 rfl) (kq q_1574 rfl) (kq q_55 rfl) (kq q_66 rfl) (kq q_1575 rfl)) yd_X10_lost ⟨Nat.le_of_ble_eq_true rfl, Nat.le_of_ble_eq_true rfl⟩ hN hK hP hD [0] rfl rfl (ci := 9) rfl rfl rfl rfl rfl hl.1 rfl (lv_room (Nat.le_of_ble_eq_true rfl)) dX10_row_31) hP hD hS hA [0] rfl rfl (fun H locs hP hD hS => ?_)
    have hP : va_P (dC, dI) vwCl [cl_X10 h_this h_this_dayAt h_this_secondAt h_this_spans h_this_kept h_this_text h_this_row h_this_read h_this_many h_this_first h_this_lengths h_this_page i_this_5 j_this, (h_this_row, .inl (cJ, 16, .inr (.inl f_this_row)))] H := hP
    have hD : va_D A [cl_X10 h_this h_this_dayAt h_this_secondAt h_this_spans h_this_kept h_this_text h_this_row h_this_read h_this_many h_this_first h_this_lengths h_this_page i_this_5 j_this, (h_this_row, .inl (cJ, 16, .inr (.inl f_this_row)))] := hD
    refine lv_i2l hx hb dX10_row_34 rfl ?_
    obtain ⟨rfl, rfl⟩ := pj2 h
    exact hEnd _ _ _ _ hP hS dX10_row_35
  have h := ite_f c3 h
  refine lv_aload_n hx hb dX10_row_21 rfl (lv_at hl 0 rfl) ?_
  refine va_get (D := (dC, dI)) (ci := 9) (v := .ref h_this_row) (C := RX10) (T := TX10) (N := 29) hx hb hts inX10 hown hK hP 0 rfl rfl 7 (by decide) (hts _ (kq q_993 rfl)) (fun _ h9 => h9) rfl dX10_row_22 ?_
  refine lv_iload_n hx hb dX10_row_25 rfl (lv_at hl 1 rfl) ?_
  obtain ⟨hi7, h⟩ := gi_at h
  refine va_lald hx hb hK hP 1 1 rfl rfl hi7 dX10_row_26 ?_
  refine lv_goto (tgt := 35) hx hb dX10_row_27 (by decide) ?_
  obtain ⟨rfl, rfl⟩ := pj2 h
  exact hEnd _ _ _ _ hP hS dX10_row_35
noncomputable def fX10_thrown (N : Nat) (i_this : Nat → Int32) (j_this : Nat → Int64) : Option (Int32) := (some (i_this 9))
set_option maxHeartbeats 4000000 in
set_option maxRecDepth 100000 in
theorem kX10_thrown (l : Launch) (dC : Nat → ClassId) (dI : Nat → Nat → Nat) (cI cJ cB : ClassId) (h_this h_this_dayAt h_this_secondAt h_this_spans h_this_kept h_this_text h_this_row h_this_read h_this_many h_this_first h_this_lengths h_this_page : Nat) (N : Nat) (i_this : Nat → Int32) (j_this : Nat → Int64) (r : Int32) (hf : fX10_thrown N i_this j_this = some r) : MI l yX10_thrown (kws yX10_thrown cX10_thrown 1 (some .int)) (kR 0 0) (dC, dI) (kT cI cJ cB) [.ref h_this] [cl_X10 h_this h_this_dayAt h_this_secondAt h_this_spans h_this_kept h_this_text h_this_row h_this_read h_this_many h_this_first h_this_lengths h_this_page i_this j_this] [cl_X10 h_this h_this_dayAt h_this_secondAt h_this_spans h_this_kept h_this_text h_this_row h_this_read h_this_many h_this_first h_this_lengths h_this_page i_this j_this] r := by
  refine MI.of (cc := cX10_thrown) (maxL := 1) (by decide) (Nat.le_of_ble_eq_true rfl) (fun p e s m args below meth c A Q ls KC hN hK hP hD hA hl hEnd => ?_)
  obtain ⟨hx, hb, hml, hown, hts⟩ := KC
  have hown : s.vm.findClass "DateSpansModel" = some m.cls := hown
  have hl : lv_has ls 1 [(0, .ref h_this)] := hl
  have hS : va_S A s.heap s.heap [] := va_S.rf
  have h := hf
  unfold fX10_thrown at h
  refine lv_aload_n hx hb dX10_thrown_0 rfl (lv_at hl 0 rfl) ?_
  refine va_get (D := (dC, dI)) (ci := 9) (v := .int (i_this 9)) (C := RX10) (T := TX10) (N := 29) hx hb hts inX10 hown hK hP 0 rfl rfl 9 (by decide) (hts _ (kq q_995 rfl)) (fun _ h9 => h9) rfl dX10_thrown_1 ?_
  obtain rfl := pj1 h
  exact hEnd _ _ _ _ hP hS dX10_thrown_4 rfl
