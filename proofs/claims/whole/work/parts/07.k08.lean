noncomputable def fX10_drift_j97 (N : Nat) (j_this : Nat → Int64) (f_this_dayAt : Nat → Int32) (f_this_secondAt : Nat → Int32) (f_this_spans : Nat → Int32) (v1 : Int32) (v2 : Int32) (v3 : Int32) (v4 : Int32) (v5 : Int32) (i_this : Nat → Int32) (f_this_row : Nat → Int64) : Option (Int64 × (Nat → Int32) × (Nat → Int64)) := (bd1 (fX10_instant N i_this j_this) fun r1 => (bd1 (fX10_standsAt N v1 i_this j_this f_this_dayAt f_this_secondAt) fun i_this_3 => (if v5 = (0 : Int32) then (some ((-1000002 : Int64), i_this_3, f_this_row)) else (bd2 (fX10_addsSpan N v2 v4.toInt64 v3 (0 : Int32) i_this_3 j_this f_this_spans) fun r6 i_this_7 => (if r6 = (0 : Int32) then (some ((-1000002 : Int64), i_this_7, f_this_row)) else (bd2 (fX10_tell N r1 (upd i_this_7 8 (0 : Int32)) j_this f_this_row) fun i_this_10 f_this_row_11 => (bd1 (fX10_instant N i_this_10 j_this) fun r13 => (bd2 (fX10_tell N r13 i_this_10 j_this f_this_row_11) fun i_this_15 f_this_row_16 => (bd1 (fX10_instant N i_this_15 j_this) fun r18 => (some ((r1 - r18), i_this_15, f_this_row_16)))))))))))
noncomputable def fX10_drift_l69 (N : Nat) (j_this : Nat → Int64) (f_this_dayAt : Nat → Int32) (f_this_secondAt : Nat → Int32) (f_this_spans : Nat → Int32) (n : Nat) : Int32 → Int32 → Int32 → Int32 → Int32 → Int32 → (Nat → Int32) → (Nat → Int64) → Option (Int64 × (Nat → Int32) × (Nat → Int64)) := Nat.rec (motive := fun _ => Int32 → Int32 → Int32 → Int32 → Int32 → Int32 → (Nat → Int32) → (Nat → Int64) → Option (Int64 × (Nat → Int32) × (Nat → Int64))) (fun _ _ _ _ _ _ _ _ => none) (fun _ K_69 v1 v2 v3 v4 v5 v6 i_this f_this_row => (if v4 ≤ v6 then (fX10_drift_j97 N j_this f_this_dayAt f_this_secondAt f_this_spans v1 v2 v3 v4 v5 i_this f_this_row) else (if v5 = (0 : Int32) then (fX10_drift_j97 N j_this f_this_dayAt f_this_secondAt f_this_spans v1 v2 v3 v4 v5 i_this f_this_row) else (bd2 (fX10_addsSpan N v2 (1 : Int64) v3 (0 : Int32) i_this j_this f_this_spans) fun r22 i_this_23 => (nm (v6 + (1 : Int32)) fun z25 => (K_69 v1 v2 v3 v4 r22 z25 i_this_23 f_this_row)))))) n
theorem fX10_drift_l69_s (N : Nat) (j_this : Nat → Int64) (f_this_dayAt : Nat → Int32) (f_this_secondAt : Nat → Int32) (f_this_spans : Nat → Int32) (n : Nat) (v1 : Int32) (v2 : Int32) (v3 : Int32) (v4 : Int32) (v5 : Int32) (v6 : Int32) (i_this : Nat → Int32) (f_this_row : Nat → Int64) : fX10_drift_l69 N j_this f_this_dayAt f_this_secondAt f_this_spans (n + 1) v1 v2 v3 v4 v5 v6 i_this f_this_row = (if v4 ≤ v6 then (fX10_drift_j97 N j_this f_this_dayAt f_this_secondAt f_this_spans v1 v2 v3 v4 v5 i_this f_this_row) else (if v5 = (0 : Int32) then (fX10_drift_j97 N j_this f_this_dayAt f_this_secondAt f_this_spans v1 v2 v3 v4 v5 i_this f_this_row) else (bd2 (fX10_addsSpan N v2 (1 : Int64) v3 (0 : Int32) i_this j_this f_this_spans) fun r22 i_this_23 => (nm (v6 + (1 : Int32)) fun z25 => ((fX10_drift_l69 N j_this f_this_dayAt f_this_secondAt f_this_spans n) v1 v2 v3 v4 r22 z25 i_this_23 f_this_row))))) := rfl
theorem fX10_drift_l69_0 (N : Nat) (j_this : Nat → Int64) (f_this_dayAt : Nat → Int32) (f_this_secondAt : Nat → Int32) (f_this_spans : Nat → Int32) (v1 : Int32) (v2 : Int32) (v3 : Int32) (v4 : Int32) (v5 : Int32) (v6 : Int32) (i_this : Nat → Int32) (f_this_row : Nat → Int64) : fX10_drift_l69 N j_this f_this_dayAt f_this_secondAt f_this_spans 0 v1 v2 v3 v4 v5 v6 i_this f_this_row = none := rfl
noncomputable def fX10_drift (N : Nat) (p1 : Int32) (p2 : Int32) (p3 : Int32) (p4 : Int32) (i_this : Nat → Int32) (j_this : Nat → Int64) (f_this_dayAt : Nat → Int32) (f_this_secondAt : Nat → Int32) (f_this_spans : Nat → Int32) (f_this_row : Nat → Int64) : Option (Int64 × (Nat → Int32) × (Nat → Int64)) := (bd1 (fX10_isSlot N p1) fun r26 => (if r26 = (0 : Int32) then (some ((-1 : Int64), (upd i_this 9 (0 : Int32)), f_this_row)) else (bd1 (fX10_isSlot N p2) fun r29 => (if r29 = (0 : Int32) then (some ((-1 : Int64), (upd i_this 9 (0 : Int32)), f_this_row)) else (bd1 (fX10_isLaw N p3) fun r32 => (if r32 = (0 : Int32) then (some ((-1 : Int64), (upd i_this 9 (0 : Int32)), f_this_row)) else (bd1 (fX10_in N p4.toInt64 (0 : Int64) (1000 : Int64)) fun r35 => (if r35 = (0 : Int32) then (some ((-1 : Int64), (upd i_this 9 (0 : Int32)), f_this_row)) else (bd1 (fX10_isBeyond N p2 p4.toInt64 (upd i_this 9 (0 : Int32)) j_this f_this_spans) fun r38 => (if r38 = (0 : Int32) then (bd1 (fX10_standsAt N p1 (upd i_this 9 (0 : Int32)) j_this f_this_dayAt f_this_secondAt) fun i_this_41 => (fX10_drift_l69 N j_this f_this_dayAt f_this_secondAt f_this_spans N p1 p2 p3 p4 (1 : Int32) (0 : Int32) i_this_41 f_this_row)) else (some ((-1000009 : Int64), (upd i_this 9 (0 : Int32)), f_this_row))))))))))))
set_option maxHeartbeats 4000000 in
set_option maxRecDepth 100000 in
theorem kX10_drift (l : Launch) (dC : Nat → ClassId) (dI : Nat → Nat → Nat) (cI cJ cB : ClassId) (h_this h_this_dayAt h_this_secondAt h_this_spans h_this_kept h_this_text h_this_row h_this_read h_this_many h_this_first h_this_lengths h_this_page : Nat) (N : Nat) (p1 : Int32) (p2 : Int32) (p3 : Int32) (p4 : Int32) (i_this : Nat → Int32) (j_this : Nat → Int64) (f_this_dayAt : Nat → Int32) (f_this_secondAt : Nat → Int32) (f_this_spans : Nat → Int32) (f_this_row : Nat → Int64) (r : Int64) (o_i_this : Nat → Int32) (o_f_this_row : Nat → Int64) (hf : fX10_drift N p1 p2 p3 p4 i_this j_this f_this_dayAt f_this_secondAt f_this_spans f_this_row = some (r, o_i_this, o_f_this_row)) : ML l yX10_drift (kws yX10_drift cX10_drift 8 (some .long)) (kR 6 150) (dC, dI) (kT cI cJ cB) [.ref h_this, .int p1, .int p2, .int p3, .int p4] [cl_X10 h_this h_this_dayAt h_this_secondAt h_this_spans h_this_kept h_this_text h_this_row h_this_read h_this_many h_this_first h_this_lengths h_this_page i_this j_this, (h_this_dayAt, .inl (cI, 8, .inl f_this_dayAt)), (h_this_secondAt, .inl (cI, 8, .inl f_this_secondAt)), (h_this_spans, .inl (cI, 24, .inl f_this_spans)), (h_this_row, .inl (cJ, 16, .inr (.inl f_this_row)))] [cl_X10 h_this h_this_dayAt h_this_secondAt h_this_spans h_this_kept h_this_text h_this_row h_this_read h_this_many h_this_first h_this_lengths h_this_page o_i_this j_this, (h_this_dayAt, .inl (cI, 8, .inl f_this_dayAt)), (h_this_secondAt, .inl (cI, 8, .inl f_this_secondAt)), (h_this_spans, .inl (cI, 24, .inl f_this_spans)), (h_this_row, .inl (cJ, 16, .inr (.inl o_f_this_row)))] r := by
  refine ML.of (cc := cX10_drift) (maxL := 8) (by decide) (Nat.le_of_ble_eq_true rfl) (fun p e s m args below meth c A Q ls KC hN hK hP hD hA hl hEnd => ?_)
  obtain ⟨hx, hb, hml, hown, hts⟩ := KC
  have hown : s.vm.findClass "DateSpansModel" = some m.cls := hown
  have hl : lv_has ls 8 [(0, .ref h_this), (1, .int p1), (2, .int p2), (3, .int p3), (4, .int p4)] := hl
  have hS : va_S A s.heap s.heap [] := va_S.rf
  have JN_97 : ∀ (v1 : Int32) (v2 : Int32) (v3 : Int32) (v4 : Int32) (v5 : Int32) (i_this : Nat → Int32) (f_this_row : Nat → Int64) (ls : Array Slot) (H : Heap) (locs : List Loc), (fX10_drift_j97 N j_this f_this_dayAt f_this_secondAt f_this_spans) v1 v2 v3 v4 v5 i_this f_this_row = some (r, o_i_this, o_f_this_row) → lv_has ls 8 [(0, .ref h_this), (1, .int v1), (2, .int v2), (3, .int v3), (4, .int v4), (5, .int v5)] → va_P (dC, dI) vwCl [cl_X10 h_this h_this_dayAt h_this_secondAt h_this_spans h_this_kept h_this_text h_this_row h_this_read h_this_many h_this_first h_this_lengths h_this_page i_this j_this, (h_this_dayAt, .inl (cI, 8, .inl f_this_dayAt)), (h_this_secondAt, .inl (cI, 8, .inl f_this_secondAt)), (h_this_spans, .inl (cI, 24, .inl f_this_spans)), (h_this_row, .inl (cJ, 16, .inr (.inl f_this_row)))] H → va_D A [cl_X10 h_this h_this_dayAt h_this_secondAt h_this_spans h_this_kept h_this_text h_this_row h_this_read h_this_many h_this_first h_this_lengths h_this_page i_this j_this, (h_this_dayAt, .inl (cI, 8, .inl f_this_dayAt)), (h_this_secondAt, .inl (cI, 8, .inl f_this_secondAt)), (h_this_spans, .inl (cI, 24, .inl f_this_spans)), (h_this_row, .inl (cJ, 16, .inr (.inl f_this_row)))] → va_S A s.heap H locs → W p l e (kR 6 150) s m args below meth c H locs 0 0 Q (F0 m 97 ls []) := by
    intro v1 v2 v3 v4 v5 i_this f_this_row ls H locs h hl hP hD hS
    unfold fX10_drift_j97 at h
    refine lv_aload_n hx hb dX10_drift_97 rfl (lv_at hl 0 rfl) ?_
    obtain ⟨r1, hc2, h⟩ := bd1_at h
    refine kjL (kV (own := "DateSpansModel") (C := "DateSpansModel") (b := h_this) (As := []) (rest := []) ⟨hx, hb, hml, hown, hts⟩ (kX10_instant l dC dI cI cJ cB h_this h_this_dayAt h_this_secondAt h_this_spans h_this_kept h_this_text h_this_row h_this_read h_this_many h_this_first h_this_lengths h_this_page N i_this j_this r1 hc2 _) (kgV (kq q_1352 rfl) (kq q_1354 rfl) (kq q_42 rfl) (kq q_66 rfl) (kq q_1355 rfl)) yd_X10_instant ⟨Nat.le_of_ble_eq_true rfl, Nat.le_of_ble_eq_true rfl⟩ hN hK hP hD [0] rfl rfl (ci := 9) rfl rfl rfl rfl rfl hl.1 rfl (lv_room (Nat.le_of_ble_eq_true rfl)) dX10_drift_98) hP hD hS hA [0] rfl rfl (fun H locs hP hD hS => ?_)
    have hP : va_P (dC, dI) vwCl [cl_X10 h_this h_this_dayAt h_this_secondAt h_this_spans h_this_kept h_this_text h_this_row h_this_read h_this_many h_this_first h_this_lengths h_this_page i_this j_this, (h_this_dayAt, .inl (cI, 8, .inl f_this_dayAt)), (h_this_secondAt, .inl (cI, 8, .inl f_this_secondAt)), (h_this_spans, .inl (cI, 24, .inl f_this_spans)), (h_this_row, .inl (cJ, 16, .inr (.inl f_this_row)))] H := hP
    have hD : va_D A [cl_X10 h_this h_this_dayAt h_this_secondAt h_this_spans h_this_kept h_this_text h_this_row h_this_read h_this_many h_this_first h_this_lengths h_this_page i_this j_this, (h_this_dayAt, .inl (cI, 8, .inl f_this_dayAt)), (h_this_secondAt, .inl (cI, 8, .inl f_this_secondAt)), (h_this_spans, .inl (cI, 24, .inl f_this_spans)), (h_this_row, .inl (cJ, 16, .inr (.inl f_this_row)))] := hD
    refine lv_lstore (lv' := [(6, .long r1), (0, .ref h_this), (1, .int v1), (2, .int v2), (3, .int v3), (4, .int v4), (5, .int v5)]) hx hb dX10_drift_101 hl (by decide) rfl (fun ls hl => ?_)
    refine lv_aload_n hx hb dX10_drift_103 rfl (lv_at hl 1 rfl) ?_
    refine lv_iload_n hx hb dX10_drift_104 rfl (lv_at hl 2 rfl) ?_
    obtain ⟨i_this_3, hc4, h⟩ := bd1_at h
    refine kjV (kV (own := "DateSpansModel") (C := "DateSpansModel") (b := h_this) (As := [.int v1]) (rest := []) ⟨hx, hb, hml, hown, hts⟩ (kX10_standsAt l dC dI cI cJ cB h_this h_this_dayAt h_this_secondAt h_this_spans h_this_kept h_this_text h_this_row h_this_read h_this_many h_this_first h_this_lengths h_this_page N v1 i_this j_this f_this_dayAt f_this_secondAt i_this_3 hc4 _) (kgV (kq q_1282 rfl) (kq q_1284 rfl) (kq q_32 rfl) (kq q_66 rfl) (kq q_1285 rfl)) yd_X10_standsAt ⟨Nat.le_of_ble_eq_true rfl, Nat.le_of_ble_eq_true rfl⟩ hN hK hP hD [0, 1, 2] rfl rfl (ci := 9) rfl rfl rfl rfl rfl hl.1 rfl (lv_room (Nat.le_of_ble_eq_true rfl)) dX10_drift_105) hP hD hS hA [0, 1, 2] rfl rfl (fun H locs hP hD hS => ?_)
    have hP : va_P (dC, dI) vwCl [cl_X10 h_this h_this_dayAt h_this_secondAt h_this_spans h_this_kept h_this_text h_this_row h_this_read h_this_many h_this_first h_this_lengths h_this_page i_this_3 j_this, (h_this_dayAt, .inl (cI, 8, .inl f_this_dayAt)), (h_this_secondAt, .inl (cI, 8, .inl f_this_secondAt)), (h_this_spans, .inl (cI, 24, .inl f_this_spans)), (h_this_row, .inl (cJ, 16, .inr (.inl f_this_row)))] H := hP
    have hD : va_D A [cl_X10 h_this h_this_dayAt h_this_secondAt h_this_spans h_this_kept h_this_text h_this_row h_this_read h_this_many h_this_first h_this_lengths h_this_page i_this_3 j_this, (h_this_dayAt, .inl (cI, 8, .inl f_this_dayAt)), (h_this_secondAt, .inl (cI, 8, .inl f_this_secondAt)), (h_this_spans, .inl (cI, 24, .inl f_this_spans)), (h_this_row, .inl (cJ, 16, .inr (.inl f_this_row)))] := hD
    refine lv_iload hx hb dX10_drift_108 (lv_at hl 6 rfl) ?_
    refine lv_if_eq (tgt := 126) hx hb dX10_drift_110 (by decide) (fun c5 => ?_) (fun c5 => ?_)
    · have h := ite_t c5 h
      refine lv_ldc2 (v := (-1000002 : Int64)) hx hb hown (hts _ (kq q_1414 rfl)) dX10_drift_126 ?_
      obtain ⟨rfl, rfl, rfl⟩ := pj3 h
      exact hEnd _ _ _ _ hP hS dX10_drift_129
    have h := ite_f c5 h
    refine lv_aload_n hx hb dX10_drift_113 rfl (lv_at hl 1 rfl) ?_
    refine lv_iload_n hx hb dX10_drift_114 rfl (lv_at hl 3 rfl) ?_
    refine lv_iload hx hb dX10_drift_115 (lv_at hl 5 rfl) ?_
    refine lv_i2l hx hb dX10_drift_117 rfl ?_
    refine lv_iload_n hx hb dX10_drift_118 rfl (lv_at hl 4 rfl) ?_
    refine lv_iconst (v := (0 : Int32)) hx hb dX10_drift_119 (by decide) ?_
    obtain ⟨r6, i_this_7, hc8, h⟩ := bd2_at h
    refine kjI (kV (own := "DateSpansModel") (C := "DateSpansModel") (b := h_this) (As := [.int v2, .long v4.toInt64, .int v3, .int (0 : Int32)]) (rest := []) ⟨hx, hb, hml, hown, hts⟩ (kX10_addsSpan l dC dI cI cJ cB h_this h_this_dayAt h_this_secondAt h_this_spans h_this_kept h_this_text h_this_row h_this_read h_this_many h_this_first h_this_lengths h_this_page N v2 v4.toInt64 v3 (0 : Int32) i_this_3 j_this f_this_spans r6 i_this_7 hc8 _) (kgV (kq q_1286 rfl) (kq q_1288 rfl) (kq q_33 rfl) (kq q_66 rfl) (kq q_1289 rfl)) yd_X10_addsSpan ⟨Nat.le_of_ble_eq_true rfl, Nat.le_of_ble_eq_true rfl⟩ hN hK hP hD [0, 3] rfl rfl (ci := 9) rfl rfl rfl rfl rfl hl.1 rfl (lv_room (Nat.le_of_ble_eq_true rfl)) dX10_drift_120) hP hD hS hA [0, 3] rfl rfl (fun H locs hP hD hS => ?_)
    have hP : va_P (dC, dI) vwCl [cl_X10 h_this h_this_dayAt h_this_secondAt h_this_spans h_this_kept h_this_text h_this_row h_this_read h_this_many h_this_first h_this_lengths h_this_page i_this_7 j_this, (h_this_dayAt, .inl (cI, 8, .inl f_this_dayAt)), (h_this_secondAt, .inl (cI, 8, .inl f_this_secondAt)), (h_this_spans, .inl (cI, 24, .inl f_this_spans)), (h_this_row, .inl (cJ, 16, .inr (.inl f_this_row)))] H := hP
    have hD : va_D A [cl_X10 h_this h_this_dayAt h_this_secondAt h_this_spans h_this_kept h_this_text h_this_row h_this_read h_this_many h_this_first h_this_lengths h_this_page i_this_7 j_this, (h_this_dayAt, .inl (cI, 8, .inl f_this_dayAt)), (h_this_secondAt, .inl (cI, 8, .inl f_this_secondAt)), (h_this_spans, .inl (cI, 24, .inl f_this_spans)), (h_this_row, .inl (cJ, 16, .inr (.inl f_this_row)))] := hD
    refine lv_if_ne (tgt := 130) hx hb dX10_drift_123 (by decide) (fun c9 => ?_) (fun c9 => ?_)
    · have h := ite_f c9 h
      refine lv_aload_n hx hb dX10_drift_130 rfl (lv_at hl 1 rfl) ?_
      refine lv_iconst (v := (0 : Int32)) hx hb dX10_drift_131 (by decide) ?_
      refine va_put (D := (dC, dI)) (ci := 9) (v := .int (0 : Int32)) (ty := .int) (C := RX10) (T := TX10) (N := 29) hx hb hts inX10 tyX10 tyX10_ok nmX10 hown hK hP hD hS 0 rfl rfl 8 (by decide) (hts _ (kq q_994 rfl)) (fun _ h9 => h9) rfl (by decide +kernel) rfl rfl (Nat.le_of_ble_eq_true rfl) dX10_drift_132 (fun H locs hP hD hS => ?_)
      have hP : va_P (dC, dI) vwCl [(h_this, .inr (9, [.ref h_this_dayAt, .ref h_this_secondAt, .ref h_this_spans, .ref h_this_kept, .int (i_this_7 4), .ref h_this_text, .int (i_this_7 6), .ref h_this_row, .int (0 : Int32), .int (i_this_7 9), .int (i_this_7 10), .int (i_this_7 11), .int (i_this_7 12), .int (i_this_7 13), .int (i_this_7 14), .int (i_this_7 15), .int (i_this_7 16), .int (i_this_7 17), .int (i_this_7 18), .ref h_this_read, .long (j_this 20), .ref h_this_many, .ref h_this_first, .ref h_this_lengths, .int (i_this_7 24), .long (j_this 25), .long (j_this 26), .ref h_this_page, .int (i_this_7 28)])), (h_this_dayAt, .inl (cI, 8, .inl f_this_dayAt)), (h_this_secondAt, .inl (cI, 8, .inl f_this_secondAt)), (h_this_spans, .inl (cI, 24, .inl f_this_spans)), (h_this_row, .inl (cJ, 16, .inr (.inl f_this_row)))] H := hP
      have hD : va_D A [(h_this, .inr (9, [.ref h_this_dayAt, .ref h_this_secondAt, .ref h_this_spans, .ref h_this_kept, .int (i_this_7 4), .ref h_this_text, .int (i_this_7 6), .ref h_this_row, .int (0 : Int32), .int (i_this_7 9), .int (i_this_7 10), .int (i_this_7 11), .int (i_this_7 12), .int (i_this_7 13), .int (i_this_7 14), .int (i_this_7 15), .int (i_this_7 16), .int (i_this_7 17), .int (i_this_7 18), .ref h_this_read, .long (j_this 20), .ref h_this_many, .ref h_this_first, .ref h_this_lengths, .int (i_this_7 24), .long (j_this 25), .long (j_this 26), .ref h_this_page, .int (i_this_7 28)])), (h_this_dayAt, .inl (cI, 8, .inl f_this_dayAt)), (h_this_secondAt, .inl (cI, 8, .inl f_this_secondAt)), (h_this_spans, .inl (cI, 24, .inl f_this_spans)), (h_this_row, .inl (cJ, 16, .inr (.inl f_this_row)))] := hD
      refine lv_aload_n hx hb dX10_drift_135 rfl (lv_at hl 1 rfl) ?_
      refine lv_lload hx hb dX10_drift_136 (lv_at hl 0 rfl) ?_
      have hP : va_P (dC, dI) vwCl [cl_X10 h_this h_this_dayAt h_this_secondAt h_this_spans h_this_kept h_this_text h_this_row h_this_read h_this_many h_this_first h_this_lengths h_this_page (upd i_this_7 8 (0 : Int32)) j_this, (h_this_dayAt, .inl (cI, 8, .inl f_this_dayAt)), (h_this_secondAt, .inl (cI, 8, .inl f_this_secondAt)), (h_this_spans, .inl (cI, 24, .inl f_this_spans)), (h_this_row, .inl (cJ, 16, .inr (.inl f_this_row)))] H := hP
      have hD : va_D A [cl_X10 h_this h_this_dayAt h_this_secondAt h_this_spans h_this_kept h_this_text h_this_row h_this_read h_this_many h_this_first h_this_lengths h_this_page (upd i_this_7 8 (0 : Int32)) j_this, (h_this_dayAt, .inl (cI, 8, .inl f_this_dayAt)), (h_this_secondAt, .inl (cI, 8, .inl f_this_secondAt)), (h_this_spans, .inl (cI, 24, .inl f_this_spans)), (h_this_row, .inl (cJ, 16, .inr (.inl f_this_row)))] := hD
      obtain ⟨i_this_10, f_this_row_11, hc12, h⟩ := bd2_at h
      refine kjV (kV (own := "DateSpansModel") (C := "DateSpansModel") (b := h_this) (As := [.long r1]) (rest := []) ⟨hx, hb, hml, hown, hts⟩ (kX10_tell l dC dI cI cJ cB h_this h_this_dayAt h_this_secondAt h_this_spans h_this_kept h_this_text h_this_row h_this_read h_this_many h_this_first h_this_lengths h_this_page N r1 (upd i_this_7 8 (0 : Int32)) j_this f_this_row i_this_10 f_this_row_11 hc12 _) (kgV (kq q_1221 rfl) (kq q_1223 rfl) (kq q_29 rfl) (kq q_66 rfl) (kq q_1224 rfl)) yd_X10_tell ⟨Nat.le_of_ble_eq_true rfl, Nat.le_of_ble_eq_true rfl⟩ hN hK hP hD [0, 4] rfl rfl (ci := 9) rfl rfl rfl rfl rfl hl.1 rfl (lv_room (Nat.le_of_ble_eq_true rfl)) dX10_drift_138) hP hD hS hA [0, 4] rfl rfl (fun H locs hP hD hS => ?_)
      have hP : va_P (dC, dI) vwCl [cl_X10 h_this h_this_dayAt h_this_secondAt h_this_spans h_this_kept h_this_text h_this_row h_this_read h_this_many h_this_first h_this_lengths h_this_page i_this_10 j_this, (h_this_dayAt, .inl (cI, 8, .inl f_this_dayAt)), (h_this_secondAt, .inl (cI, 8, .inl f_this_secondAt)), (h_this_spans, .inl (cI, 24, .inl f_this_spans)), (h_this_row, .inl (cJ, 16, .inr (.inl f_this_row_11)))] H := hP
      have hD : va_D A [cl_X10 h_this h_this_dayAt h_this_secondAt h_this_spans h_this_kept h_this_text h_this_row h_this_read h_this_many h_this_first h_this_lengths h_this_page i_this_10 j_this, (h_this_dayAt, .inl (cI, 8, .inl f_this_dayAt)), (h_this_secondAt, .inl (cI, 8, .inl f_this_secondAt)), (h_this_spans, .inl (cI, 24, .inl f_this_spans)), (h_this_row, .inl (cJ, 16, .inr (.inl f_this_row_11)))] := hD
      refine lv_aload_n hx hb dX10_drift_141 rfl (lv_at hl 1 rfl) ?_
      refine lv_aload_n hx hb dX10_drift_142 rfl (lv_at hl 1 rfl) ?_
      obtain ⟨r13, hc14, h⟩ := bd1_at h
      refine kjL (kV (own := "DateSpansModel") (C := "DateSpansModel") (b := h_this) (As := []) (rest := [.ref h_this]) ⟨hx, hb, hml, hown, hts⟩ (kX10_instant l dC dI cI cJ cB h_this h_this_dayAt h_this_secondAt h_this_spans h_this_kept h_this_text h_this_row h_this_read h_this_many h_this_first h_this_lengths h_this_page N i_this_10 j_this r13 hc14 _) (kgV (kq q_1352 rfl) (kq q_1354 rfl) (kq q_42 rfl) (kq q_66 rfl) (kq q_1355 rfl)) yd_X10_instant ⟨Nat.le_of_ble_eq_true rfl, Nat.le_of_ble_eq_true rfl⟩ hN hK hP hD [0] rfl rfl (ci := 9) rfl rfl rfl rfl rfl hl.1 rfl (lv_room (Nat.le_of_ble_eq_true rfl)) dX10_drift_143) hP hD hS hA [0] rfl rfl (fun H locs hP hD hS => ?_)
      have hP : va_P (dC, dI) vwCl [cl_X10 h_this h_this_dayAt h_this_secondAt h_this_spans h_this_kept h_this_text h_this_row h_this_read h_this_many h_this_first h_this_lengths h_this_page i_this_10 j_this, (h_this_dayAt, .inl (cI, 8, .inl f_this_dayAt)), (h_this_secondAt, .inl (cI, 8, .inl f_this_secondAt)), (h_this_spans, .inl (cI, 24, .inl f_this_spans)), (h_this_row, .inl (cJ, 16, .inr (.inl f_this_row_11)))] H := hP
      have hD : va_D A [cl_X10 h_this h_this_dayAt h_this_secondAt h_this_spans h_this_kept h_this_text h_this_row h_this_read h_this_many h_this_first h_this_lengths h_this_page i_this_10 j_this, (h_this_dayAt, .inl (cI, 8, .inl f_this_dayAt)), (h_this_secondAt, .inl (cI, 8, .inl f_this_secondAt)), (h_this_spans, .inl (cI, 24, .inl f_this_spans)), (h_this_row, .inl (cJ, 16, .inr (.inl f_this_row_11)))] := hD
      obtain ⟨i_this_15, f_this_row_16, hc17, h⟩ := bd2_at h
      refine kjV (kV (own := "DateSpansModel") (C := "DateSpansModel") (b := h_this) (As := [.long r13]) (rest := []) ⟨hx, hb, hml, hown, hts⟩ (kX10_tell l dC dI cI cJ cB h_this h_this_dayAt h_this_secondAt h_this_spans h_this_kept h_this_text h_this_row h_this_read h_this_many h_this_first h_this_lengths h_this_page N r13 i_this_10 j_this f_this_row_11 i_this_15 f_this_row_16 hc17 _) (kgV (kq q_1221 rfl) (kq q_1223 rfl) (kq q_29 rfl) (kq q_66 rfl) (kq q_1224 rfl)) yd_X10_tell ⟨Nat.le_of_ble_eq_true rfl, Nat.le_of_ble_eq_true rfl⟩ hN hK hP hD [0, 4] rfl rfl (ci := 9) rfl rfl rfl rfl rfl hl.1 rfl (lv_room (Nat.le_of_ble_eq_true rfl)) dX10_drift_146) hP hD hS hA [0, 4] rfl rfl (fun H locs hP hD hS => ?_)
      have hP : va_P (dC, dI) vwCl [cl_X10 h_this h_this_dayAt h_this_secondAt h_this_spans h_this_kept h_this_text h_this_row h_this_read h_this_many h_this_first h_this_lengths h_this_page i_this_15 j_this, (h_this_dayAt, .inl (cI, 8, .inl f_this_dayAt)), (h_this_secondAt, .inl (cI, 8, .inl f_this_secondAt)), (h_this_spans, .inl (cI, 24, .inl f_this_spans)), (h_this_row, .inl (cJ, 16, .inr (.inl f_this_row_16)))] H := hP
      have hD : va_D A [cl_X10 h_this h_this_dayAt h_this_secondAt h_this_spans h_this_kept h_this_text h_this_row h_this_read h_this_many h_this_first h_this_lengths h_this_page i_this_15 j_this, (h_this_dayAt, .inl (cI, 8, .inl f_this_dayAt)), (h_this_secondAt, .inl (cI, 8, .inl f_this_secondAt)), (h_this_spans, .inl (cI, 24, .inl f_this_spans)), (h_this_row, .inl (cJ, 16, .inr (.inl f_this_row_16)))] := hD
      refine lv_lload hx hb dX10_drift_149 (lv_at hl 0 rfl) ?_
      refine lv_aload_n hx hb dX10_drift_151 rfl (lv_at hl 1 rfl) ?_
      obtain ⟨r18, hc19, h⟩ := bd1_at h
      refine kjL (kV (own := "DateSpansModel") (C := "DateSpansModel") (b := h_this) (As := []) (rest := [.long r1]) ⟨hx, hb, hml, hown, hts⟩ (kX10_instant l dC dI cI cJ cB h_this h_this_dayAt h_this_secondAt h_this_spans h_this_kept h_this_text h_this_row h_this_read h_this_many h_this_first h_this_lengths h_this_page N i_this_15 j_this r18 hc19 _) (kgV (kq q_1352 rfl) (kq q_1354 rfl) (kq q_42 rfl) (kq q_66 rfl) (kq q_1355 rfl)) yd_X10_instant ⟨Nat.le_of_ble_eq_true rfl, Nat.le_of_ble_eq_true rfl⟩ hN hK hP hD [0] rfl rfl (ci := 9) rfl rfl rfl rfl rfl hl.1 rfl (lv_room (Nat.le_of_ble_eq_true rfl)) dX10_drift_152) hP hD hS hA [0] rfl rfl (fun H locs hP hD hS => ?_)
      have hP : va_P (dC, dI) vwCl [cl_X10 h_this h_this_dayAt h_this_secondAt h_this_spans h_this_kept h_this_text h_this_row h_this_read h_this_many h_this_first h_this_lengths h_this_page i_this_15 j_this, (h_this_dayAt, .inl (cI, 8, .inl f_this_dayAt)), (h_this_secondAt, .inl (cI, 8, .inl f_this_secondAt)), (h_this_spans, .inl (cI, 24, .inl f_this_spans)), (h_this_row, .inl (cJ, 16, .inr (.inl f_this_row_16)))] H := hP
      have hD : va_D A [cl_X10 h_this h_this_dayAt h_this_secondAt h_this_spans h_this_kept h_this_text h_this_row h_this_read h_this_many h_this_first h_this_lengths h_this_page i_this_15 j_this, (h_this_dayAt, .inl (cI, 8, .inl f_this_dayAt)), (h_this_secondAt, .inl (cI, 8, .inl f_this_secondAt)), (h_this_spans, .inl (cI, 24, .inl f_this_spans)), (h_this_row, .inl (cJ, 16, .inr (.inl f_this_row_16)))] := hD
      refine lv_lsub hx hb dX10_drift_155 ?_
      obtain ⟨rfl, rfl, rfl⟩ := pj3 h
      exact hEnd _ _ _ _ hP hS dX10_drift_156
    have h := ite_t c9 h
    refine lv_ldc2 (v := (-1000002 : Int64)) hx hb hown (hts _ (kq q_1414 rfl)) dX10_drift_126 ?_
    obtain ⟨rfl, rfl, rfl⟩ := pj3 h
    exact hEnd _ _ _ _ hP hS dX10_drift_129
  have LP_69 : ∀ n_69 : Nat, ∀ (v1 : Int32) (v2 : Int32) (v3 : Int32) (v4 : Int32) (v5 : Int32) (v6 : Int32) (i_this : Nat → Int32) (f_this_row : Nat → Int64) (ls : Array Slot) (H : Heap) (locs : List Loc), fX10_drift_l69 N j_this f_this_dayAt f_this_secondAt f_this_spans n_69 v1 v2 v3 v4 v5 v6 i_this f_this_row = some (r, o_i_this, o_f_this_row) → lv_has ls 8 [(0, .ref h_this), (1, .int v1), (2, .int v2), (3, .int v3), (4, .int v4), (5, .int v5), (6, .int v6)] → va_P (dC, dI) vwCl [cl_X10 h_this h_this_dayAt h_this_secondAt h_this_spans h_this_kept h_this_text h_this_row h_this_read h_this_many h_this_first h_this_lengths h_this_page i_this j_this, (h_this_dayAt, .inl (cI, 8, .inl f_this_dayAt)), (h_this_secondAt, .inl (cI, 8, .inl f_this_secondAt)), (h_this_spans, .inl (cI, 24, .inl f_this_spans)), (h_this_row, .inl (cJ, 16, .inr (.inl f_this_row)))] H → va_D A [cl_X10 h_this h_this_dayAt h_this_secondAt h_this_spans h_this_kept h_this_text h_this_row h_this_read h_this_many h_this_first h_this_lengths h_this_page i_this j_this, (h_this_dayAt, .inl (cI, 8, .inl f_this_dayAt)), (h_this_secondAt, .inl (cI, 8, .inl f_this_secondAt)), (h_this_spans, .inl (cI, 24, .inl f_this_spans)), (h_this_row, .inl (cJ, 16, .inr (.inl f_this_row)))] → va_S A s.heap H locs → W p l e (kR 6 150) s m args below meth c H locs 0 0 Q (F0 m 69 ls []) := by
    intro n_69
    induction n_69 with
    | zero =>
      intro v1 v2 v3 v4 v5 v6 i_this f_this_row ls H locs h hl hP hD hS
      rw [fX10_drift_l69_0] at h; cases h
    | succ n_69 ih_69 =>
      intro v1 v2 v3 v4 v5 v6 i_this f_this_row ls H locs h hl hP hD hS
      rw [fX10_drift_l69_s] at h
      refine lv_iload hx hb dX10_drift_69 (lv_at hl 6 rfl) ?_
      refine lv_iload hx hb dX10_drift_71 (lv_at hl 4 rfl) ?_
      refine lv_icmp_ge (tgt := 97) hx hb dX10_drift_73 (by decide) (fun c20 => ?_) (fun c20 => ?_)
      · have h := ite_t c20 h
        exact JN_97 _ _ _ _ _ _ _ _ _ _ h (lv_sub hl [0, 1, 2, 3, 4, 5] rfl) hP hD hS
      have h := ite_f c20 h
      refine lv_iload hx hb dX10_drift_76 (lv_at hl 5 rfl) ?_
      refine lv_if_eq (tgt := 97) hx hb dX10_drift_78 (by decide) (fun c21 => ?_) (fun c21 => ?_)
      · have h := ite_t c21 h
        exact JN_97 _ _ _ _ _ _ _ _ _ _ h (lv_sub hl [0, 1, 2, 3, 4, 5] rfl) hP hD hS
      have h := ite_f c21 h
      refine lv_aload_n hx hb dX10_drift_81 rfl (lv_at hl 0 rfl) ?_
      refine lv_iload_n hx hb dX10_drift_82 rfl (lv_at hl 2 rfl) ?_
      refine lv_lconst (v := (1 : Int64)) hx hb dX10_drift_83 (by decide) ?_
      refine lv_iload_n hx hb dX10_drift_84 rfl (lv_at hl 3 rfl) ?_
      refine lv_iconst (v := (0 : Int32)) hx hb dX10_drift_85 (by decide) ?_
      obtain ⟨r22, i_this_23, hc24, h⟩ := bd2_at h
      refine kjI (kV (own := "DateSpansModel") (C := "DateSpansModel") (b := h_this) (As := [.int v2, .long (1 : Int64), .int v3, .int (0 : Int32)]) (rest := []) ⟨hx, hb, hml, hown, hts⟩ (kX10_addsSpan l dC dI cI cJ cB h_this h_this_dayAt h_this_secondAt h_this_spans h_this_kept h_this_text h_this_row h_this_read h_this_many h_this_first h_this_lengths h_this_page N v2 (1 : Int64) v3 (0 : Int32) i_this j_this f_this_spans r22 i_this_23 hc24 _) (kgV (kq q_1286 rfl) (kq q_1288 rfl) (kq q_33 rfl) (kq q_66 rfl) (kq q_1289 rfl)) yd_X10_addsSpan ⟨Nat.le_of_ble_eq_true rfl, Nat.le_of_ble_eq_true rfl⟩ hN hK hP hD [0, 3] rfl rfl (ci := 9) rfl rfl rfl rfl rfl hl.1 rfl (lv_room (Nat.le_of_ble_eq_true rfl)) dX10_drift_86) hP hD hS hA [0, 3] rfl rfl (fun H locs hP hD hS => ?_)
      have hP : va_P (dC, dI) vwCl [cl_X10 h_this h_this_dayAt h_this_secondAt h_this_spans h_this_kept h_this_text h_this_row h_this_read h_this_many h_this_first h_this_lengths h_this_page i_this_23 j_this, (h_this_dayAt, .inl (cI, 8, .inl f_this_dayAt)), (h_this_secondAt, .inl (cI, 8, .inl f_this_secondAt)), (h_this_spans, .inl (cI, 24, .inl f_this_spans)), (h_this_row, .inl (cJ, 16, .inr (.inl f_this_row)))] H := hP
      have hD : va_D A [cl_X10 h_this h_this_dayAt h_this_secondAt h_this_spans h_this_kept h_this_text h_this_row h_this_read h_this_many h_this_first h_this_lengths h_this_page i_this_23 j_this, (h_this_dayAt, .inl (cI, 8, .inl f_this_dayAt)), (h_this_secondAt, .inl (cI, 8, .inl f_this_secondAt)), (h_this_spans, .inl (cI, 24, .inl f_this_spans)), (h_this_row, .inl (cJ, 16, .inr (.inl f_this_row)))] := hD
      refine lv_istore (lv' := [(5, .int r22), (0, .ref h_this), (1, .int v1), (2, .int v2), (3, .int v3), (4, .int v4), (6, .int v6)]) hx hb dX10_drift_89 hl (by decide) rfl (fun ls hl => ?_)
      obtain ⟨z25, ez25⟩ : ∃ y : Int32, y = (v6 + (1 : Int32)) := ⟨_, rfl⟩
      have h := nm_at ez25 h
      refine lv_iinc (v := z25) (lv' := [(6, .int z25), (5, .int r22), (0, .ref h_this), (1, .int v1), (2, .int v2), (3, .int v3), (4, .int v4)]) hx hb dX10_drift_91 hl (k := 6) rfl (by rw [ez25]; rfl) (by decide) rfl (fun ls hl => ?_)
      refine lv_goto (tgt := 69) hx hb dX10_drift_94 (by decide) ?_
      exact ih_69 _ _ _ _ _ _ _ _ _ _ _ h (lv_sub hl [2, 3, 4, 5, 6, 1, 0] rfl) hP hD hS
  have h := hf
  unfold fX10_drift at h
  refine lv_aload_n hx hb dX10_drift_0 rfl (lv_at hl 0 rfl) ?_
  refine lv_iconst (v := (0 : Int32)) hx hb dX10_drift_1 (by decide) ?_
  refine va_put (D := (dC, dI)) (ci := 9) (v := .int (0 : Int32)) (ty := .int) (C := RX10) (T := TX10) (N := 29) hx hb hts inX10 tyX10 tyX10_ok nmX10 hown hK hP hD hS 0 rfl rfl 9 (by decide) (hts _ (kq q_995 rfl)) (fun _ h9 => h9) rfl (by decide +kernel) rfl rfl (Nat.le_of_ble_eq_true rfl) dX10_drift_2 (fun H locs hP hD hS => ?_)
  have hP : va_P (dC, dI) vwCl [(h_this, .inr (9, [.ref h_this_dayAt, .ref h_this_secondAt, .ref h_this_spans, .ref h_this_kept, .int (i_this 4), .ref h_this_text, .int (i_this 6), .ref h_this_row, .int (i_this 8), .int (0 : Int32), .int (i_this 10), .int (i_this 11), .int (i_this 12), .int (i_this 13), .int (i_this 14), .int (i_this 15), .int (i_this 16), .int (i_this 17), .int (i_this 18), .ref h_this_read, .long (j_this 20), .ref h_this_many, .ref h_this_first, .ref h_this_lengths, .int (i_this 24), .long (j_this 25), .long (j_this 26), .ref h_this_page, .int (i_this 28)])), (h_this_dayAt, .inl (cI, 8, .inl f_this_dayAt)), (h_this_secondAt, .inl (cI, 8, .inl f_this_secondAt)), (h_this_spans, .inl (cI, 24, .inl f_this_spans)), (h_this_row, .inl (cJ, 16, .inr (.inl f_this_row)))] H := hP
  have hD : va_D A [(h_this, .inr (9, [.ref h_this_dayAt, .ref h_this_secondAt, .ref h_this_spans, .ref h_this_kept, .int (i_this 4), .ref h_this_text, .int (i_this 6), .ref h_this_row, .int (i_this 8), .int (0 : Int32), .int (i_this 10), .int (i_this 11), .int (i_this 12), .int (i_this 13), .int (i_this 14), .int (i_this 15), .int (i_this 16), .int (i_this 17), .int (i_this 18), .ref h_this_read, .long (j_this 20), .ref h_this_many, .ref h_this_first, .ref h_this_lengths, .int (i_this 24), .long (j_this 25), .long (j_this 26), .ref h_this_page, .int (i_this 28)])), (h_this_dayAt, .inl (cI, 8, .inl f_this_dayAt)), (h_this_secondAt, .inl (cI, 8, .inl f_this_secondAt)), (h_this_spans, .inl (cI, 24, .inl f_this_spans)), (h_this_row, .inl (cJ, 16, .inr (.inl f_this_row)))] := hD
  refine lv_iload_n hx hb dX10_drift_5 rfl (lv_at hl 1 rfl) ?_
  have hP : va_P (dC, dI) vwCl [cl_X10 h_this h_this_dayAt h_this_secondAt h_this_spans h_this_kept h_this_text h_this_row h_this_read h_this_many h_this_first h_this_lengths h_this_page (upd i_this 9 (0 : Int32)) j_this, (h_this_dayAt, .inl (cI, 8, .inl f_this_dayAt)), (h_this_secondAt, .inl (cI, 8, .inl f_this_secondAt)), (h_this_spans, .inl (cI, 24, .inl f_this_spans)), (h_this_row, .inl (cJ, 16, .inr (.inl f_this_row)))] H := hP
  have hD : va_D A [cl_X10 h_this h_this_dayAt h_this_secondAt h_this_spans h_this_kept h_this_text h_this_row h_this_read h_this_many h_this_first h_this_lengths h_this_page (upd i_this 9 (0 : Int32)) j_this, (h_this_dayAt, .inl (cI, 8, .inl f_this_dayAt)), (h_this_secondAt, .inl (cI, 8, .inl f_this_secondAt)), (h_this_spans, .inl (cI, 24, .inl f_this_spans)), (h_this_row, .inl (cJ, 16, .inr (.inl f_this_row)))] := hD
  obtain ⟨r26, hc27, h⟩ := bd1_at h
  refine kjSI (kS0 (own := "DateSpansModel") (As := [.int p1]) (rest := []) ⟨hx, hb, hml, hown, hts⟩ (kX10_isSlot l N p1 r26 hc27) (kgS (kq q_1123 rfl) (kq q_1124 rfl) (kq q_66 rfl) (kq q_1125 rfl)) yd_X10_isSlot ⟨Nat.le_of_ble_eq_true rfl, Nat.le_of_ble_eq_true rfl⟩ rfl rfl hl.1 rfl (lv_room (Nat.le_of_ble_eq_true rfl)) dX10_drift_6) ?_
  refine lv_if_eq (tgt := 39) hx hb dX10_drift_9 (by decide) (fun c28 => ?_) (fun c28 => ?_)
  · have h := ite_t c28 h
    refine lv_ldc2 (v := (-1 : Int64)) hx hb hown (hts _ (kq q_1363 rfl)) dX10_drift_39 ?_
    obtain ⟨rfl, rfl, rfl⟩ := pj3 h
    exact hEnd _ _ _ _ hP hS dX10_drift_42
  have h := ite_f c28 h
  refine lv_iload_n hx hb dX10_drift_12 rfl (lv_at hl 2 rfl) ?_
  obtain ⟨r29, hc30, h⟩ := bd1_at h
  refine kjSI (kS0 (own := "DateSpansModel") (As := [.int p2]) (rest := []) ⟨hx, hb, hml, hown, hts⟩ (kX10_isSlot l N p2 r29 hc30) (kgS (kq q_1123 rfl) (kq q_1124 rfl) (kq q_66 rfl) (kq q_1125 rfl)) yd_X10_isSlot ⟨Nat.le_of_ble_eq_true rfl, Nat.le_of_ble_eq_true rfl⟩ rfl rfl hl.1 rfl (lv_room (Nat.le_of_ble_eq_true rfl)) dX10_drift_13) ?_
  refine lv_if_eq (tgt := 39) hx hb dX10_drift_16 (by decide) (fun c31 => ?_) (fun c31 => ?_)
  · have h := ite_t c31 h
    refine lv_ldc2 (v := (-1 : Int64)) hx hb hown (hts _ (kq q_1363 rfl)) dX10_drift_39 ?_
    obtain ⟨rfl, rfl, rfl⟩ := pj3 h
    exact hEnd _ _ _ _ hP hS dX10_drift_42
  have h := ite_f c31 h
  refine lv_iload_n hx hb dX10_drift_19 rfl (lv_at hl 3 rfl) ?_
  obtain ⟨r32, hc33, h⟩ := bd1_at h
  refine kjSI (kS0 (own := "DateSpansModel") (As := [.int p3]) (rest := []) ⟨hx, hb, hml, hown, hts⟩ (kX10_isLaw l N p3 r32 hc33) (kgS (kq q_1275 rfl) (kq q_1276 rfl) (kq q_66 rfl) (kq q_1277 rfl)) yd_X10_isLaw ⟨Nat.le_of_ble_eq_true rfl, Nat.le_of_ble_eq_true rfl⟩ rfl rfl hl.1 rfl (lv_room (Nat.le_of_ble_eq_true rfl)) dX10_drift_20) ?_
  refine lv_if_eq (tgt := 39) hx hb dX10_drift_23 (by decide) (fun c34 => ?_) (fun c34 => ?_)
  · have h := ite_t c34 h
    refine lv_ldc2 (v := (-1 : Int64)) hx hb hown (hts _ (kq q_1363 rfl)) dX10_drift_39 ?_
    obtain ⟨rfl, rfl, rfl⟩ := pj3 h
    exact hEnd _ _ _ _ hP hS dX10_drift_42
  have h := ite_f c34 h
  refine lv_iload hx hb dX10_drift_26 (lv_at hl 4 rfl) ?_
  refine lv_i2l hx hb dX10_drift_28 rfl ?_
  refine lv_lconst (v := (0 : Int64)) hx hb dX10_drift_29 (by decide) ?_
  refine lv_ldc2 (v := (1000 : Int64)) hx hb hown (hts _ (kq q_1412 rfl)) dX10_drift_30 ?_
  obtain ⟨r35, hc36, h⟩ := bd1_at h
  refine kjSI (kS0 (own := "DateSpansModel") (As := [.long p4.toInt64, .long (0 : Int64), .long (1000 : Int64)]) (rest := []) ⟨hx, hb, hml, hown, hts⟩ (kX10_in l N p4.toInt64 (0 : Int64) (1000 : Int64) r35 hc36) (kgS (kq q_1086 rfl) (kq q_1087 rfl) (kq q_66 rfl) (kq q_1088 rfl)) yd_X10_in ⟨Nat.le_of_ble_eq_true rfl, Nat.le_of_ble_eq_true rfl⟩ rfl rfl hl.1 rfl (lv_room (Nat.le_of_ble_eq_true rfl)) dX10_drift_33) ?_
  refine lv_if_ne (tgt := 43) hx hb dX10_drift_36 (by decide) (fun c37 => ?_) (fun c37 => ?_)
  · have h := ite_f c37 h
    refine lv_aload_n hx hb dX10_drift_43 rfl (lv_at hl 0 rfl) ?_
    refine lv_iload_n hx hb dX10_drift_44 rfl (lv_at hl 2 rfl) ?_
    refine lv_iload hx hb dX10_drift_45 (lv_at hl 4 rfl) ?_
    refine lv_i2l hx hb dX10_drift_47 rfl ?_
    obtain ⟨r38, hc39, h⟩ := bd1_at h
    refine kjI (kV (own := "DateSpansModel") (C := "DateSpansModel") (b := h_this) (As := [.int p2, .long p4.toInt64]) (rest := []) ⟨hx, hb, hml, hown, hts⟩ (kX10_isBeyond l dC dI cI cJ cB h_this h_this_dayAt h_this_secondAt h_this_spans h_this_kept h_this_text h_this_row h_this_read h_this_many h_this_first h_this_lengths h_this_page N p2 p4.toInt64 (upd i_this 9 (0 : Int32)) j_this f_this_spans r38 hc39 _) (kgV (kq q_1387 rfl) (kq q_1389 rfl) (kq q_44 rfl) (kq q_66 rfl) (kq q_1390 rfl)) yd_X10_isBeyond ⟨Nat.le_of_ble_eq_true rfl, Nat.le_of_ble_eq_true rfl⟩ hN hK hP hD [0, 3] rfl rfl (ci := 9) rfl rfl rfl rfl rfl hl.1 rfl (lv_room (Nat.le_of_ble_eq_true rfl)) dX10_drift_48) hP hD hS hA [0, 3] rfl rfl (fun H locs hP hD hS => ?_)
    have hP : va_P (dC, dI) vwCl [cl_X10 h_this h_this_dayAt h_this_secondAt h_this_spans h_this_kept h_this_text h_this_row h_this_read h_this_many h_this_first h_this_lengths h_this_page (upd i_this 9 (0 : Int32)) j_this, (h_this_dayAt, .inl (cI, 8, .inl f_this_dayAt)), (h_this_secondAt, .inl (cI, 8, .inl f_this_secondAt)), (h_this_spans, .inl (cI, 24, .inl f_this_spans)), (h_this_row, .inl (cJ, 16, .inr (.inl f_this_row)))] H := hP
    have hD : va_D A [cl_X10 h_this h_this_dayAt h_this_secondAt h_this_spans h_this_kept h_this_text h_this_row h_this_read h_this_many h_this_first h_this_lengths h_this_page (upd i_this 9 (0 : Int32)) j_this, (h_this_dayAt, .inl (cI, 8, .inl f_this_dayAt)), (h_this_secondAt, .inl (cI, 8, .inl f_this_secondAt)), (h_this_spans, .inl (cI, 24, .inl f_this_spans)), (h_this_row, .inl (cJ, 16, .inr (.inl f_this_row)))] := hD
    refine lv_if_eq (tgt := 58) hx hb dX10_drift_51 (by decide) (fun c40 => ?_) (fun c40 => ?_)
    · have h := ite_t c40 h
      refine lv_aload_n hx hb dX10_drift_58 rfl (lv_at hl 0 rfl) ?_
      refine lv_iload_n hx hb dX10_drift_59 rfl (lv_at hl 1 rfl) ?_
      obtain ⟨i_this_41, hc42, h⟩ := bd1_at h
      refine kjV (kV (own := "DateSpansModel") (C := "DateSpansModel") (b := h_this) (As := [.int p1]) (rest := []) ⟨hx, hb, hml, hown, hts⟩ (kX10_standsAt l dC dI cI cJ cB h_this h_this_dayAt h_this_secondAt h_this_spans h_this_kept h_this_text h_this_row h_this_read h_this_many h_this_first h_this_lengths h_this_page N p1 (upd i_this 9 (0 : Int32)) j_this f_this_dayAt f_this_secondAt i_this_41 hc42 _) (kgV (kq q_1282 rfl) (kq q_1284 rfl) (kq q_32 rfl) (kq q_66 rfl) (kq q_1285 rfl)) yd_X10_standsAt ⟨Nat.le_of_ble_eq_true rfl, Nat.le_of_ble_eq_true rfl⟩ hN hK hP hD [0, 1, 2] rfl rfl (ci := 9) rfl rfl rfl rfl rfl hl.1 rfl (lv_room (Nat.le_of_ble_eq_true rfl)) dX10_drift_60) hP hD hS hA [0, 1, 2] rfl rfl (fun H locs hP hD hS => ?_)
      have hP : va_P (dC, dI) vwCl [cl_X10 h_this h_this_dayAt h_this_secondAt h_this_spans h_this_kept h_this_text h_this_row h_this_read h_this_many h_this_first h_this_lengths h_this_page i_this_41 j_this, (h_this_dayAt, .inl (cI, 8, .inl f_this_dayAt)), (h_this_secondAt, .inl (cI, 8, .inl f_this_secondAt)), (h_this_spans, .inl (cI, 24, .inl f_this_spans)), (h_this_row, .inl (cJ, 16, .inr (.inl f_this_row)))] H := hP
      have hD : va_D A [cl_X10 h_this h_this_dayAt h_this_secondAt h_this_spans h_this_kept h_this_text h_this_row h_this_read h_this_many h_this_first h_this_lengths h_this_page i_this_41 j_this, (h_this_dayAt, .inl (cI, 8, .inl f_this_dayAt)), (h_this_secondAt, .inl (cI, 8, .inl f_this_secondAt)), (h_this_spans, .inl (cI, 24, .inl f_this_spans)), (h_this_row, .inl (cJ, 16, .inr (.inl f_this_row)))] := hD
      refine lv_iconst (v := (1 : Int32)) hx hb dX10_drift_63 (by decide) ?_
      refine lv_istore (lv' := [(5, .int (1 : Int32)), (0, .ref h_this), (1, .int p1), (2, .int p2), (3, .int p3), (4, .int p4)]) hx hb dX10_drift_64 hl (by decide) rfl (fun ls hl => ?_)
      refine lv_iconst (v := (0 : Int32)) hx hb dX10_drift_66 (by decide) ?_
      refine lv_istore (lv' := [(6, .int (0 : Int32)), (5, .int (1 : Int32)), (0, .ref h_this), (1, .int p1), (2, .int p2), (3, .int p3), (4, .int p4)]) hx hb dX10_drift_67 hl (by decide) rfl (fun ls hl => ?_)
      exact LP_69 N _ _ _ _ _ _ _ _ _ _ _ h (lv_sub hl [2, 3, 4, 5, 6, 1, 0] rfl) hP hD hS
    have h := ite_f c40 h
    refine lv_ldc2 (v := (-1000009 : Int64)) hx hb hown (hts _ (kq q_1413 rfl)) dX10_drift_54 ?_
    obtain ⟨rfl, rfl, rfl⟩ := pj3 h
    exact hEnd _ _ _ _ hP hS dX10_drift_57
  have h := ite_t c37 h
  refine lv_ldc2 (v := (-1 : Int64)) hx hb hown (hts _ (kq q_1363 rfl)) dX10_drift_39 ?_
  obtain ⟨rfl, rfl, rfl⟩ := pj3 h
  exact hEnd _ _ _ _ hP hS dX10_drift_42
noncomputable def fX10_leads (N : Nat) (p1 : Int32) (p2 : Int32) (p3 : Int32) (p4 : Int32) (i_this : Nat → Int32) (j_this : Nat → Int64) (f_this_dayAt : Nat → Int32) (f_this_secondAt : Nat → Int32) (f_this_spans : Nat → Int32) : Option (Int32 × (Nat → Int32)) := (bd1 (fX10_standsAt N p1 i_this j_this f_this_dayAt f_this_secondAt) fun i_this_1 => (bd1 (fX10_isBeyond N p2 p4.toInt64 i_this_1 j_this f_this_spans) fun r3 => (if r3 = (0 : Int32) then (bd2 (fX10_addsSpan N p2 p4.toInt64 p3 (0 : Int32) i_this_1 j_this f_this_spans) fun r6 i_this_7 => (if r6 = (0 : Int32) then (some ((0 : Int32), i_this_7)) else (some ((1 : Int32), i_this_7)))) else (some ((0 : Int32), i_this_1)))))
set_option maxHeartbeats 4000000 in
set_option maxRecDepth 100000 in
theorem kX10_leads (l : Launch) (dC : Nat → ClassId) (dI : Nat → Nat → Nat) (cI cJ cB : ClassId) (h_this h_this_dayAt h_this_secondAt h_this_spans h_this_kept h_this_text h_this_row h_this_read h_this_many h_this_first h_this_lengths h_this_page : Nat) (N : Nat) (p1 : Int32) (p2 : Int32) (p3 : Int32) (p4 : Int32) (i_this : Nat → Int32) (j_this : Nat → Int64) (f_this_dayAt : Nat → Int32) (f_this_secondAt : Nat → Int32) (f_this_spans : Nat → Int32) (r : Int32) (o_i_this : Nat → Int32) (hf : fX10_leads N p1 p2 p3 p4 i_this j_this f_this_dayAt f_this_secondAt f_this_spans = some (r, o_i_this)) : MI l yX10_leads (kws yX10_leads cX10_leads 5 (some .boolean)) (kR 6 150) (dC, dI) (kT cI cJ cB) [.ref h_this, .int p1, .int p2, .int p3, .int p4] [cl_X10 h_this h_this_dayAt h_this_secondAt h_this_spans h_this_kept h_this_text h_this_row h_this_read h_this_many h_this_first h_this_lengths h_this_page i_this j_this, (h_this_dayAt, .inl (cI, 8, .inl f_this_dayAt)), (h_this_secondAt, .inl (cI, 8, .inl f_this_secondAt)), (h_this_spans, .inl (cI, 24, .inl f_this_spans))] [cl_X10 h_this h_this_dayAt h_this_secondAt h_this_spans h_this_kept h_this_text h_this_row h_this_read h_this_many h_this_first h_this_lengths h_this_page o_i_this j_this, (h_this_dayAt, .inl (cI, 8, .inl f_this_dayAt)), (h_this_secondAt, .inl (cI, 8, .inl f_this_secondAt)), (h_this_spans, .inl (cI, 24, .inl f_this_spans))] r := by
  refine MI.of (cc := cX10_leads) (maxL := 5) (by decide) (Nat.le_of_ble_eq_true rfl) (fun p e s m args below meth c A Q ls KC hN hK hP hD hA hl hEnd => ?_)
  obtain ⟨hx, hb, hml, hown, hts⟩ := KC
  have hown : s.vm.findClass "DateSpansModel" = some m.cls := hown
  have hl : lv_has ls 5 [(0, .ref h_this), (1, .int p1), (2, .int p2), (3, .int p3), (4, .int p4)] := hl
  have hS : va_S A s.heap s.heap [] := va_S.rf
  have h := hf
  unfold fX10_leads at h
  refine lv_aload_n hx hb dX10_leads_0 rfl (lv_at hl 0 rfl) ?_
  refine lv_iload_n hx hb dX10_leads_1 rfl (lv_at hl 1 rfl) ?_
  obtain ⟨i_this_1, hc2, h⟩ := bd1_at h
  refine kjV (kV (own := "DateSpansModel") (C := "DateSpansModel") (b := h_this) (As := [.int p1]) (rest := []) ⟨hx, hb, hml, hown, hts⟩ (kX10_standsAt l dC dI cI cJ cB h_this h_this_dayAt h_this_secondAt h_this_spans h_this_kept h_this_text h_this_row h_this_read h_this_many h_this_first h_this_lengths h_this_page N p1 i_this j_this f_this_dayAt f_this_secondAt i_this_1 hc2 _) (kgV (kq q_1282 rfl) (kq q_1284 rfl) (kq q_32 rfl) (kq q_66 rfl) (kq q_1285 rfl)) yd_X10_standsAt ⟨Nat.le_of_ble_eq_true rfl, Nat.le_of_ble_eq_true rfl⟩ hN hK hP hD [0, 1, 2] rfl rfl (ci := 9) rfl rfl rfl rfl rfl hl.1 rfl (lv_room (Nat.le_of_ble_eq_true rfl)) dX10_leads_2) hP hD hS hA [0, 1, 2] rfl rfl (fun H locs hP hD hS => ?_)
  have hP : va_P (dC, dI) vwCl [cl_X10 h_this h_this_dayAt h_this_secondAt h_this_spans h_this_kept h_this_text h_this_row h_this_read h_this_many h_this_first h_this_lengths h_this_page i_this_1 j_this, (h_this_dayAt, .inl (cI, 8, .inl f_this_dayAt)), (h_this_secondAt, .inl (cI, 8, .inl f_this_secondAt)), (h_this_spans, .inl (cI, 24, .inl f_this_spans))] H := hP
  have hD : va_D A [cl_X10 h_this h_this_dayAt h_this_secondAt h_this_spans h_this_kept h_this_text h_this_row h_this_read h_this_many h_this_first h_this_lengths h_this_page i_this_1 j_this, (h_this_dayAt, .inl (cI, 8, .inl f_this_dayAt)), (h_this_secondAt, .inl (cI, 8, .inl f_this_secondAt)), (h_this_spans, .inl (cI, 24, .inl f_this_spans))] := hD
  refine lv_aload_n hx hb dX10_leads_5 rfl (lv_at hl 0 rfl) ?_
  refine lv_iload_n hx hb dX10_leads_6 rfl (lv_at hl 2 rfl) ?_
  refine lv_iload hx hb dX10_leads_7 (lv_at hl 4 rfl) ?_
  refine lv_i2l hx hb dX10_leads_9 rfl ?_
  obtain ⟨r3, hc4, h⟩ := bd1_at h
  refine kjI (kV (own := "DateSpansModel") (C := "DateSpansModel") (b := h_this) (As := [.int p2, .long p4.toInt64]) (rest := []) ⟨hx, hb, hml, hown, hts⟩ (kX10_isBeyond l dC dI cI cJ cB h_this h_this_dayAt h_this_secondAt h_this_spans h_this_kept h_this_text h_this_row h_this_read h_this_many h_this_first h_this_lengths h_this_page N p2 p4.toInt64 i_this_1 j_this f_this_spans r3 hc4 _) (kgV (kq q_1387 rfl) (kq q_1389 rfl) (kq q_44 rfl) (kq q_66 rfl) (kq q_1390 rfl)) yd_X10_isBeyond ⟨Nat.le_of_ble_eq_true rfl, Nat.le_of_ble_eq_true rfl⟩ hN hK hP hD [0, 3] rfl rfl (ci := 9) rfl rfl rfl rfl rfl hl.1 rfl (lv_room (Nat.le_of_ble_eq_true rfl)) dX10_leads_10) hP hD hS hA [0, 3] rfl rfl (fun H locs hP hD hS => ?_)
  have hP : va_P (dC, dI) vwCl [cl_X10 h_this h_this_dayAt h_this_secondAt h_this_spans h_this_kept h_this_text h_this_row h_this_read h_this_many h_this_first h_this_lengths h_this_page i_this_1 j_this, (h_this_dayAt, .inl (cI, 8, .inl f_this_dayAt)), (h_this_secondAt, .inl (cI, 8, .inl f_this_secondAt)), (h_this_spans, .inl (cI, 24, .inl f_this_spans))] H := hP
  have hD : va_D A [cl_X10 h_this h_this_dayAt h_this_secondAt h_this_spans h_this_kept h_this_text h_this_row h_this_read h_this_many h_this_first h_this_lengths h_this_page i_this_1 j_this, (h_this_dayAt, .inl (cI, 8, .inl f_this_dayAt)), (h_this_secondAt, .inl (cI, 8, .inl f_this_secondAt)), (h_this_spans, .inl (cI, 24, .inl f_this_spans))] := hD
  refine lv_if_ne (tgt := 33) hx hb dX10_leads_13 (by decide) (fun c5 => ?_) (fun c5 => ?_)
  · have h := ite_f c5 h
    refine lv_iconst (v := (0 : Int32)) hx hb dX10_leads_33 (by decide) ?_
    obtain ⟨rfl, rfl⟩ := pj2 h
    exact hEnd _ _ _ _ hP hS dX10_leads_34 rfl
  have h := ite_t c5 h
  refine lv_aload_n hx hb dX10_leads_16 rfl (lv_at hl 0 rfl) ?_
  refine lv_iload_n hx hb dX10_leads_17 rfl (lv_at hl 2 rfl) ?_
  refine lv_iload hx hb dX10_leads_18 (lv_at hl 4 rfl) ?_
  refine lv_i2l hx hb dX10_leads_20 rfl ?_
  refine lv_iload_n hx hb dX10_leads_21 rfl (lv_at hl 3 rfl) ?_
  refine lv_iconst (v := (0 : Int32)) hx hb dX10_leads_22 (by decide) ?_
  obtain ⟨r6, i_this_7, hc8, h⟩ := bd2_at h
  refine kjI (kV (own := "DateSpansModel") (C := "DateSpansModel") (b := h_this) (As := [.int p2, .long p4.toInt64, .int p3, .int (0 : Int32)]) (rest := []) ⟨hx, hb, hml, hown, hts⟩ (kX10_addsSpan l dC dI cI cJ cB h_this h_this_dayAt h_this_secondAt h_this_spans h_this_kept h_this_text h_this_row h_this_read h_this_many h_this_first h_this_lengths h_this_page N p2 p4.toInt64 p3 (0 : Int32) i_this_1 j_this f_this_spans r6 i_this_7 hc8 _) (kgV (kq q_1286 rfl) (kq q_1288 rfl) (kq q_33 rfl) (kq q_66 rfl) (kq q_1289 rfl)) yd_X10_addsSpan ⟨Nat.le_of_ble_eq_true rfl, Nat.le_of_ble_eq_true rfl⟩ hN hK hP hD [0, 3] rfl rfl (ci := 9) rfl rfl rfl rfl rfl hl.1 rfl (lv_room (Nat.le_of_ble_eq_true rfl)) dX10_leads_23) hP hD hS hA [0, 3] rfl rfl (fun H locs hP hD hS => ?_)
  have hP : va_P (dC, dI) vwCl [cl_X10 h_this h_this_dayAt h_this_secondAt h_this_spans h_this_kept h_this_text h_this_row h_this_read h_this_many h_this_first h_this_lengths h_this_page i_this_7 j_this, (h_this_dayAt, .inl (cI, 8, .inl f_this_dayAt)), (h_this_secondAt, .inl (cI, 8, .inl f_this_secondAt)), (h_this_spans, .inl (cI, 24, .inl f_this_spans))] H := hP
  have hD : va_D A [cl_X10 h_this h_this_dayAt h_this_secondAt h_this_spans h_this_kept h_this_text h_this_row h_this_read h_this_many h_this_first h_this_lengths h_this_page i_this_7 j_this, (h_this_dayAt, .inl (cI, 8, .inl f_this_dayAt)), (h_this_secondAt, .inl (cI, 8, .inl f_this_secondAt)), (h_this_spans, .inl (cI, 24, .inl f_this_spans))] := hD
  refine lv_if_eq (tgt := 33) hx hb dX10_leads_26 (by decide) (fun c9 => ?_) (fun c9 => ?_)
  · have h := ite_t c9 h
    refine lv_iconst (v := (0 : Int32)) hx hb dX10_leads_33 (by decide) ?_
    obtain ⟨rfl, rfl⟩ := pj2 h
    exact hEnd _ _ _ _ hP hS dX10_leads_34 rfl
  have h := ite_f c9 h
  refine lv_iconst (v := (1 : Int32)) hx hb dX10_leads_29 (by decide) ?_
  refine lv_goto (tgt := 34) hx hb dX10_leads_30 (by decide) ?_
  obtain ⟨rfl, rfl⟩ := pj2 h
  exact hEnd _ _ _ _ hP hS dX10_leads_34 rfl
noncomputable def fX10_runs_j142 (N : Nat) (j_this : Nat → Int64) (f_this_dayAt : Nat → Int32) (f_this_secondAt : Nat → Int32) (f_this_spans : Nat → Int32) (K_80 : Int32 → Int32 → Int32 → Int32 → Int64 → Int64 → Int32 → Int32 → Int64 → Int32 → (Nat → Int32) → (Nat → Int64) → Option (Int64 × (Nat → Int32) × (Nat → Int64))) (v1 : Int32) (v2 : Int32) (v3 : Int32) (v4 : Int32) (v5 : Int64) (v7 : Int64) (v9 : Int32) (v10 : Int32) (v11 : Int64) (v13 : Int32) (v14 : Int64) (i_this : Nat → Int32) (f_this_row : Nat → Int64) : Option (Int64 × (Nat → Int32) × (Nat → Int64)) := (if v10 = (-1 : Int32) then (nm (v13 + (1 : Int32)) fun z2 => (K_80 v1 v2 v3 v4 v5 v14 v9 v13 v11 z2 i_this f_this_row)) else (if (lg_cmp v14 v7) ≤ (0 : Int32) then (nm (v13 + (1 : Int32)) fun z4 => (K_80 v1 v2 v3 v4 v5 v7 v9 v10 v11 z4 i_this f_this_row)) else (nm (v13 + (1 : Int32)) fun z5 => (K_80 v1 v2 v3 v4 v5 v14 v9 v13 v11 z5 i_this f_this_row))))
noncomputable def fX10_runs_l80 (N : Nat) (j_this : Nat → Int64) (f_this_dayAt : Nat → Int32) (f_this_secondAt : Nat → Int32) (f_this_spans : Nat → Int32) (n : Nat) : Int32 → Int32 → Int32 → Int32 → Int64 → Int64 → Int32 → Int32 → Int64 → Int32 → (Nat → Int32) → (Nat → Int64) → Option (Int64 × (Nat → Int32) × (Nat → Int64)) := Nat.rec (motive := fun _ => Int32 → Int32 → Int32 → Int32 → Int64 → Int64 → Int32 → Int32 → Int64 → Int32 → (Nat → Int32) → (Nat → Int64) → Option (Int64 × (Nat → Int32) × (Nat → Int64))) (fun _ _ _ _ _ _ _ _ _ _ _ _ => none) (fun _ K_80 v1 v2 v3 v4 v5 v7 v9 v10 v11 v13 i_this f_this_row => (if v4 ≤ v13 then (bd2 (fX10_tell N v7 (upd i_this 8 (0 : Int32)) j_this f_this_row) fun i_this_7 f_this_row_8 => (bd2 (fX10_tell N v9.toInt64 i_this_7 j_this f_this_row_8) fun i_this_10 f_this_row_11 => (bd2 (fX10_tell N v10.toInt64 i_this_10 j_this f_this_row_11) fun i_this_13 f_this_row_14 => (some (v5, i_this_13, f_this_row_14))))) else (bd2 (fX10_leads N v1 v2 v3 (v13 + (1 : Int32)) i_this j_this f_this_dayAt f_this_secondAt f_this_spans) fun r16 i_this_17 => (if r16 = (0 : Int32) then (some ((-1000002 : Int64), i_this_17, f_this_row)) else (bd1 (fX10_instant N i_this_17 j_this) fun r20 => (nm (r20 - v11) fun z22 => (bd1 (fX10_instant N i_this_17 j_this) fun r23 => (if v9 = (-1 : Int32) then (fX10_runs_j142 N j_this f_this_dayAt f_this_secondAt f_this_spans K_80 v1 v2 v3 v4 z22 v7 v13 v10 r23 v13 z22 i_this_17 f_this_row) else (if (0 : Int32) ≤ (lg_cmp z22 v5) then (fX10_runs_j142 N j_this f_this_dayAt f_this_secondAt f_this_spans K_80 v1 v2 v3 v4 v5 v7 v9 v10 r23 v13 z22 i_this_17 f_this_row) else (fX10_runs_j142 N j_this f_this_dayAt f_this_secondAt f_this_spans K_80 v1 v2 v3 v4 z22 v7 v13 v10 r23 v13 z22 i_this_17 f_this_row)))))))))) n
theorem fX10_runs_l80_s (N : Nat) (j_this : Nat → Int64) (f_this_dayAt : Nat → Int32) (f_this_secondAt : Nat → Int32) (f_this_spans : Nat → Int32) (n : Nat) (v1 : Int32) (v2 : Int32) (v3 : Int32) (v4 : Int32) (v5 : Int64) (v7 : Int64) (v9 : Int32) (v10 : Int32) (v11 : Int64) (v13 : Int32) (i_this : Nat → Int32) (f_this_row : Nat → Int64) : fX10_runs_l80 N j_this f_this_dayAt f_this_secondAt f_this_spans (n + 1) v1 v2 v3 v4 v5 v7 v9 v10 v11 v13 i_this f_this_row = (if v4 ≤ v13 then (bd2 (fX10_tell N v7 (upd i_this 8 (0 : Int32)) j_this f_this_row) fun i_this_7 f_this_row_8 => (bd2 (fX10_tell N v9.toInt64 i_this_7 j_this f_this_row_8) fun i_this_10 f_this_row_11 => (bd2 (fX10_tell N v10.toInt64 i_this_10 j_this f_this_row_11) fun i_this_13 f_this_row_14 => (some (v5, i_this_13, f_this_row_14))))) else (bd2 (fX10_leads N v1 v2 v3 (v13 + (1 : Int32)) i_this j_this f_this_dayAt f_this_secondAt f_this_spans) fun r16 i_this_17 => (if r16 = (0 : Int32) then (some ((-1000002 : Int64), i_this_17, f_this_row)) else (bd1 (fX10_instant N i_this_17 j_this) fun r20 => (nm (r20 - v11) fun z22 => (bd1 (fX10_instant N i_this_17 j_this) fun r23 => (if v9 = (-1 : Int32) then (fX10_runs_j142 N j_this f_this_dayAt f_this_secondAt f_this_spans (fX10_runs_l80 N j_this f_this_dayAt f_this_secondAt f_this_spans n) v1 v2 v3 v4 z22 v7 v13 v10 r23 v13 z22 i_this_17 f_this_row) else (if (0 : Int32) ≤ (lg_cmp z22 v5) then (fX10_runs_j142 N j_this f_this_dayAt f_this_secondAt f_this_spans (fX10_runs_l80 N j_this f_this_dayAt f_this_secondAt f_this_spans n) v1 v2 v3 v4 v5 v7 v9 v10 r23 v13 z22 i_this_17 f_this_row) else (fX10_runs_j142 N j_this f_this_dayAt f_this_secondAt f_this_spans (fX10_runs_l80 N j_this f_this_dayAt f_this_secondAt f_this_spans n) v1 v2 v3 v4 z22 v7 v13 v10 r23 v13 z22 i_this_17 f_this_row))))))))) := rfl
theorem fX10_runs_l80_0 (N : Nat) (j_this : Nat → Int64) (f_this_dayAt : Nat → Int32) (f_this_secondAt : Nat → Int32) (f_this_spans : Nat → Int32) (v1 : Int32) (v2 : Int32) (v3 : Int32) (v4 : Int32) (v5 : Int64) (v7 : Int64) (v9 : Int32) (v10 : Int32) (v11 : Int64) (v13 : Int32) (i_this : Nat → Int32) (f_this_row : Nat → Int64) : fX10_runs_l80 N j_this f_this_dayAt f_this_secondAt f_this_spans 0 v1 v2 v3 v4 v5 v7 v9 v10 v11 v13 i_this f_this_row = none := rfl
noncomputable def fX10_runs (N : Nat) (p1 : Int32) (p2 : Int32) (p3 : Int32) (p4 : Int32) (i_this : Nat → Int32) (j_this : Nat → Int64) (f_this_dayAt : Nat → Int32) (f_this_secondAt : Nat → Int32) (f_this_spans : Nat → Int32) (f_this_row : Nat → Int64) : Option (Int64 × (Nat → Int32) × (Nat → Int64)) := (bd1 (fX10_isSlot N p1) fun r27 => (if r27 = (0 : Int32) then (some ((-1 : Int64), (upd i_this 9 (0 : Int32)), f_this_row)) else (bd1 (fX10_isSlot N p2) fun r30 => (if r30 = (0 : Int32) then (some ((-1 : Int64), (upd i_this 9 (0 : Int32)), f_this_row)) else (bd1 (fX10_isLaw N p3) fun r33 => (if r33 = (0 : Int32) then (some ((-1 : Int64), (upd i_this 9 (0 : Int32)), f_this_row)) else (bd1 (fX10_in N p4.toInt64 (1 : Int64) (1000 : Int64)) fun r36 => (if r36 = (0 : Int32) then (some ((-1 : Int64), (upd i_this 9 (0 : Int32)), f_this_row)) else (bd1 (fX10_isBeyond N p2 p4.toInt64 (upd i_this 9 (0 : Int32)) j_this f_this_spans) fun r39 => (if r39 = (0 : Int32) then (bd1 (fX10_instantOf N p1 (upd i_this 9 (0 : Int32)) j_this f_this_dayAt f_this_secondAt) fun r42 => (fX10_runs_l80 N j_this f_this_dayAt f_this_secondAt f_this_spans N p1 p2 p3 p4 (0 : Int64) (0 : Int64) (-1 : Int32) (-1 : Int32) r42 (0 : Int32) (upd i_this 9 (0 : Int32)) f_this_row)) else (some ((-1000009 : Int64), (upd i_this 9 (0 : Int32)), f_this_row))))))))))))
set_option maxHeartbeats 4000000 in
set_option maxRecDepth 100000 in
theorem kX10_runs (l : Launch) (dC : Nat → ClassId) (dI : Nat → Nat → Nat) (cI cJ cB : ClassId) (h_this h_this_dayAt h_this_secondAt h_this_spans h_this_kept h_this_text h_this_row h_this_read h_this_many h_this_first h_this_lengths h_this_page : Nat) (N : Nat) (p1 : Int32) (p2 : Int32) (p3 : Int32) (p4 : Int32) (i_this : Nat → Int32) (j_this : Nat → Int64) (f_this_dayAt : Nat → Int32) (f_this_secondAt : Nat → Int32) (f_this_spans : Nat → Int32) (f_this_row : Nat → Int64) (r : Int64) (o_i_this : Nat → Int32) (o_f_this_row : Nat → Int64) (hf : fX10_runs N p1 p2 p3 p4 i_this j_this f_this_dayAt f_this_secondAt f_this_spans f_this_row = some (r, o_i_this, o_f_this_row)) : ML l yX10_runs (kws yX10_runs cX10_runs 16 (some .long)) (kR 7 174) (dC, dI) (kT cI cJ cB) [.ref h_this, .int p1, .int p2, .int p3, .int p4] [cl_X10 h_this h_this_dayAt h_this_secondAt h_this_spans h_this_kept h_this_text h_this_row h_this_read h_this_many h_this_first h_this_lengths h_this_page i_this j_this, (h_this_dayAt, .inl (cI, 8, .inl f_this_dayAt)), (h_this_secondAt, .inl (cI, 8, .inl f_this_secondAt)), (h_this_spans, .inl (cI, 24, .inl f_this_spans)), (h_this_row, .inl (cJ, 16, .inr (.inl f_this_row)))] [cl_X10 h_this h_this_dayAt h_this_secondAt h_this_spans h_this_kept h_this_text h_this_row h_this_read h_this_many h_this_first h_this_lengths h_this_page o_i_this j_this, (h_this_dayAt, .inl (cI, 8, .inl f_this_dayAt)), (h_this_secondAt, .inl (cI, 8, .inl f_this_secondAt)), (h_this_spans, .inl (cI, 24, .inl f_this_spans)), (h_this_row, .inl (cJ, 16, .inr (.inl o_f_this_row)))] r := by
  refine ML.of (cc := cX10_runs) (maxL := 16) (by decide) (Nat.le_of_ble_eq_true rfl) (fun p e s m args below meth c A Q ls KC hN hK hP hD hA hl hEnd => ?_)
  obtain ⟨hx, hb, hml, hown, hts⟩ := KC
  have hown : s.vm.findClass "DateSpansModel" = some m.cls := hown
  have hl : lv_has ls 16 [(0, .ref h_this), (1, .int p1), (2, .int p2), (3, .int p3), (4, .int p4)] := hl
  have hS : va_S A s.heap s.heap [] := va_S.rf
  have LP_80 : ∀ n_80 : Nat, ∀ (v1 : Int32) (v2 : Int32) (v3 : Int32) (v4 : Int32) (v5 : Int64) (v7 : Int64) (v9 : Int32) (v10 : Int32) (v11 : Int64) (v13 : Int32) (i_this : Nat → Int32) (f_this_row : Nat → Int64) (ls : Array Slot) (H : Heap) (locs : List Loc), fX10_runs_l80 N j_this f_this_dayAt f_this_secondAt f_this_spans n_80 v1 v2 v3 v4 v5 v7 v9 v10 v11 v13 i_this f_this_row = some (r, o_i_this, o_f_this_row) → lv_has ls 16 [(0, .ref h_this), (1, .int v1), (2, .int v2), (3, .int v3), (4, .int v4), (5, .long v5), (7, .long v7), (9, .int v9), (10, .int v10), (11, .long v11), (13, .int v13)] → va_P (dC, dI) vwCl [cl_X10 h_this h_this_dayAt h_this_secondAt h_this_spans h_this_kept h_this_text h_this_row h_this_read h_this_many h_this_first h_this_lengths h_this_page i_this j_this, (h_this_dayAt, .inl (cI, 8, .inl f_this_dayAt)), (h_this_secondAt, .inl (cI, 8, .inl f_this_secondAt)), (h_this_spans, .inl (cI, 24, .inl f_this_spans)), (h_this_row, .inl (cJ, 16, .inr (.inl f_this_row)))] H → va_D A [cl_X10 h_this h_this_dayAt h_this_secondAt h_this_spans h_this_kept h_this_text h_this_row h_this_read h_this_many h_this_first h_this_lengths h_this_page i_this j_this, (h_this_dayAt, .inl (cI, 8, .inl f_this_dayAt)), (h_this_secondAt, .inl (cI, 8, .inl f_this_secondAt)), (h_this_spans, .inl (cI, 24, .inl f_this_spans)), (h_this_row, .inl (cJ, 16, .inr (.inl f_this_row)))] → va_S A s.heap H locs → W p l e (kR 7 174) s m args below meth c H locs 0 0 Q (F0 m 80 ls []) := by
    intro n_80
    induction n_80 with
    | zero =>
      intro v1 v2 v3 v4 v5 v7 v9 v10 v11 v13 i_this f_this_row ls H locs h hl hP hD hS
      rw [fX10_runs_l80_0] at h; cases h
    | succ n_80 ih_80 =>
      have JN_142 : ∀ (v1 : Int32) (v2 : Int32) (v3 : Int32) (v4 : Int32) (v5 : Int64) (v7 : Int64) (v9 : Int32) (v10 : Int32) (v11 : Int64) (v13 : Int32) (v14 : Int64) (i_this : Nat → Int32) (f_this_row : Nat → Int64) (ls : Array Slot) (H : Heap) (locs : List Loc), (fX10_runs_j142 N j_this f_this_dayAt f_this_secondAt f_this_spans (fX10_runs_l80 N j_this f_this_dayAt f_this_secondAt f_this_spans n_80)) v1 v2 v3 v4 v5 v7 v9 v10 v11 v13 v14 i_this f_this_row = some (r, o_i_this, o_f_this_row) → lv_has ls 16 [(0, .ref h_this), (1, .int v1), (2, .int v2), (3, .int v3), (4, .int v4), (5, .long v5), (7, .long v7), (9, .int v9), (10, .int v10), (11, .long v11), (13, .int v13), (14, .long v14)] → va_P (dC, dI) vwCl [cl_X10 h_this h_this_dayAt h_this_secondAt h_this_spans h_this_kept h_this_text h_this_row h_this_read h_this_many h_this_first h_this_lengths h_this_page i_this j_this, (h_this_dayAt, .inl (cI, 8, .inl f_this_dayAt)), (h_this_secondAt, .inl (cI, 8, .inl f_this_secondAt)), (h_this_spans, .inl (cI, 24, .inl f_this_spans)), (h_this_row, .inl (cJ, 16, .inr (.inl f_this_row)))] H → va_D A [cl_X10 h_this h_this_dayAt h_this_secondAt h_this_spans h_this_kept h_this_text h_this_row h_this_read h_this_many h_this_first h_this_lengths h_this_page i_this j_this, (h_this_dayAt, .inl (cI, 8, .inl f_this_dayAt)), (h_this_secondAt, .inl (cI, 8, .inl f_this_secondAt)), (h_this_spans, .inl (cI, 24, .inl f_this_spans)), (h_this_row, .inl (cJ, 16, .inr (.inl f_this_row)))] → va_S A s.heap H locs → W p l e (kR 7 174) s m args below meth c H locs 0 0 Q (F0 m 142 ls []) := by
        intro v1 v2 v3 v4 v5 v7 v9 v10 v11 v13 v14 i_this f_this_row ls H locs h hl hP hD hS
        unfold fX10_runs_j142 at h
        refine lv_iload hx hb dX10_runs_142 (lv_at hl 8 rfl) ?_
        refine lv_iconst (v := (-1 : Int32)) hx hb dX10_runs_144 (by decide) ?_
        refine lv_icmp_eq (tgt := 156) hx hb dX10_runs_145 (by decide) (fun c1 => ?_) (fun c1 => ?_)
        · have h := ite_t c1 h
          refine lv_lload hx hb dX10_runs_156 (lv_at hl 11 rfl) ?_
          refine lv_lstore (lv' := [(7, .long v14), (0, .ref h_this), (1, .int v1), (2, .int v2), (3, .int v3), (4, .int v4), (5, .long v5), (9, .int v9), (10, .int v10), (11, .long v11), (13, .int v13), (14, .long v14)]) hx hb dX10_runs_158 hl (by decide) rfl (fun ls hl => ?_)
          refine lv_iload hx hb dX10_runs_160 (lv_at hl 10 rfl) ?_
          refine lv_istore (lv' := [(10, .int v13), (7, .long v14), (0, .ref h_this), (1, .int v1), (2, .int v2), (3, .int v3), (4, .int v4), (5, .long v5), (9, .int v9), (11, .long v11), (13, .int v13), (14, .long v14)]) hx hb dX10_runs_162 hl (by decide) rfl (fun ls hl => ?_)
          obtain ⟨z2, ez2⟩ : ∃ y : Int32, y = (v13 + (1 : Int32)) := ⟨_, rfl⟩
          have h := nm_at ez2 h
          refine lv_iinc (v := z2) (lv' := [(13, .int z2), (10, .int v13), (7, .long v14), (0, .ref h_this), (1, .int v1), (2, .int v2), (3, .int v3), (4, .int v4), (5, .long v5), (9, .int v9), (11, .long v11), (14, .long v14)]) hx hb dX10_runs_164 hl (k := 10) rfl (by rw [ez2]; rfl) (by decide) rfl (fun ls hl => ?_)
          refine lv_goto (tgt := 80) hx hb dX10_runs_167 (by decide) ?_
          exact ih_80 _ _ _ _ _ _ _ _ _ _ _ _ _ _ _ h (lv_sub hl [3, 4, 5, 6, 7, 8, 2, 9, 1, 10, 0] rfl) hP hD hS
        have h := ite_f c1 h
        refine lv_lload hx hb dX10_runs_148 (lv_at hl 11 rfl) ?_
        refine lv_lload hx hb dX10_runs_150 (lv_at hl 6 rfl) ?_
        refine W.lcmp hx hb dX10_runs_152 ?_
        refine lv_if_le (tgt := 164) hx hb dX10_runs_153 (by decide) (fun c3 => ?_) (fun c3 => ?_)
        · have h := ite_t c3 h
          obtain ⟨z4, ez4⟩ : ∃ y : Int32, y = (v13 + (1 : Int32)) := ⟨_, rfl⟩
          have h := nm_at ez4 h
          refine lv_iinc (v := z4) (lv' := [(13, .int z4), (0, .ref h_this), (1, .int v1), (2, .int v2), (3, .int v3), (4, .int v4), (5, .long v5), (7, .long v7), (9, .int v9), (10, .int v10), (11, .long v11), (14, .long v14)]) hx hb dX10_runs_164 hl (k := 10) rfl (by rw [ez4]; rfl) (by decide) rfl (fun ls hl => ?_)
          refine lv_goto (tgt := 80) hx hb dX10_runs_167 (by decide) ?_
          exact ih_80 _ _ _ _ _ _ _ _ _ _ _ _ _ _ _ h (lv_sub hl [1, 2, 3, 4, 5, 6, 7, 8, 9, 10, 0] rfl) hP hD hS
        have h := ite_f c3 h
        refine lv_lload hx hb dX10_runs_156 (lv_at hl 11 rfl) ?_
        refine lv_lstore (lv' := [(7, .long v14), (0, .ref h_this), (1, .int v1), (2, .int v2), (3, .int v3), (4, .int v4), (5, .long v5), (9, .int v9), (10, .int v10), (11, .long v11), (13, .int v13), (14, .long v14)]) hx hb dX10_runs_158 hl (by decide) rfl (fun ls hl => ?_)
        refine lv_iload hx hb dX10_runs_160 (lv_at hl 10 rfl) ?_
        refine lv_istore (lv' := [(10, .int v13), (7, .long v14), (0, .ref h_this), (1, .int v1), (2, .int v2), (3, .int v3), (4, .int v4), (5, .long v5), (9, .int v9), (11, .long v11), (13, .int v13), (14, .long v14)]) hx hb dX10_runs_162 hl (by decide) rfl (fun ls hl => ?_)
        obtain ⟨z5, ez5⟩ : ∃ y : Int32, y = (v13 + (1 : Int32)) := ⟨_, rfl⟩
        have h := nm_at ez5 h
        refine lv_iinc (v := z5) (lv' := [(13, .int z5), (10, .int v13), (7, .long v14), (0, .ref h_this), (1, .int v1), (2, .int v2), (3, .int v3), (4, .int v4), (5, .long v5), (9, .int v9), (11, .long v11), (14, .long v14)]) hx hb dX10_runs_164 hl (k := 10) rfl (by rw [ez5]; rfl) (by decide) rfl (fun ls hl => ?_)
        refine lv_goto (tgt := 80) hx hb dX10_runs_167 (by decide) ?_
        exact ih_80 _ _ _ _ _ _ _ _ _ _ _ _ _ _ _ h (lv_sub hl [3, 4, 5, 6, 7, 8, 2, 9, 1, 10, 0] rfl) hP hD hS
      intro v1 v2 v3 v4 v5 v7 v9 v10 v11 v13 i_this f_this_row ls H locs h hl hP hD hS
      rw [fX10_runs_l80_s] at h
      refine lv_iload hx hb dX10_runs_80 (lv_at hl 10 rfl) ?_
      refine lv_iload hx hb dX10_runs_82 (lv_at hl 4 rfl) ?_
      refine lv_icmp_ge (tgt := 170) hx hb dX10_runs_84 (by decide) (fun c6 => ?_) (fun c6 => ?_)
      · have h := ite_t c6 h
        refine lv_aload_n hx hb dX10_runs_170 rfl (lv_at hl 0 rfl) ?_
        refine lv_iconst (v := (0 : Int32)) hx hb dX10_runs_171 (by decide) ?_
        refine va_put (D := (dC, dI)) (ci := 9) (v := .int (0 : Int32)) (ty := .int) (C := RX10) (T := TX10) (N := 29) hx hb hts inX10 tyX10 tyX10_ok nmX10 hown hK hP hD hS 0 rfl rfl 8 (by decide) (hts _ (kq q_994 rfl)) (fun _ h9 => h9) rfl (by decide +kernel) rfl rfl (Nat.le_of_ble_eq_true rfl) dX10_runs_172 (fun H locs hP hD hS => ?_)
        have hP : va_P (dC, dI) vwCl [(h_this, .inr (9, [.ref h_this_dayAt, .ref h_this_secondAt, .ref h_this_spans, .ref h_this_kept, .int (i_this 4), .ref h_this_text, .int (i_this 6), .ref h_this_row, .int (0 : Int32), .int (i_this 9), .int (i_this 10), .int (i_this 11), .int (i_this 12), .int (i_this 13), .int (i_this 14), .int (i_this 15), .int (i_this 16), .int (i_this 17), .int (i_this 18), .ref h_this_read, .long (j_this 20), .ref h_this_many, .ref h_this_first, .ref h_this_lengths, .int (i_this 24), .long (j_this 25), .long (j_this 26), .ref h_this_page, .int (i_this 28)])), (h_this_dayAt, .inl (cI, 8, .inl f_this_dayAt)), (h_this_secondAt, .inl (cI, 8, .inl f_this_secondAt)), (h_this_spans, .inl (cI, 24, .inl f_this_spans)), (h_this_row, .inl (cJ, 16, .inr (.inl f_this_row)))] H := hP
        have hD : va_D A [(h_this, .inr (9, [.ref h_this_dayAt, .ref h_this_secondAt, .ref h_this_spans, .ref h_this_kept, .int (i_this 4), .ref h_this_text, .int (i_this 6), .ref h_this_row, .int (0 : Int32), .int (i_this 9), .int (i_this 10), .int (i_this 11), .int (i_this 12), .int (i_this 13), .int (i_this 14), .int (i_this 15), .int (i_this 16), .int (i_this 17), .int (i_this 18), .ref h_this_read, .long (j_this 20), .ref h_this_many, .ref h_this_first, .ref h_this_lengths, .int (i_this 24), .long (j_this 25), .long (j_this 26), .ref h_this_page, .int (i_this 28)])), (h_this_dayAt, .inl (cI, 8, .inl f_this_dayAt)), (h_this_secondAt, .inl (cI, 8, .inl f_this_secondAt)), (h_this_spans, .inl (cI, 24, .inl f_this_spans)), (h_this_row, .inl (cJ, 16, .inr (.inl f_this_row)))] := hD
        refine lv_aload_n hx hb dX10_runs_175 rfl (lv_at hl 0 rfl) ?_
        refine lv_lload hx hb dX10_runs_176 (lv_at hl 6 rfl) ?_
        have hP : va_P (dC, dI) vwCl [cl_X10 h_this h_this_dayAt h_this_secondAt h_this_spans h_this_kept h_this_text h_this_row h_this_read h_this_many h_this_first h_this_lengths h_this_page (upd i_this 8 (0 : Int32)) j_this, (h_this_dayAt, .inl (cI, 8, .inl f_this_dayAt)), (h_this_secondAt, .inl (cI, 8, .inl f_this_secondAt)), (h_this_spans, .inl (cI, 24, .inl f_this_spans)), (h_this_row, .inl (cJ, 16, .inr (.inl f_this_row)))] H := hP
        have hD : va_D A [cl_X10 h_this h_this_dayAt h_this_secondAt h_this_spans h_this_kept h_this_text h_this_row h_this_read h_this_many h_this_first h_this_lengths h_this_page (upd i_this 8 (0 : Int32)) j_this, (h_this_dayAt, .inl (cI, 8, .inl f_this_dayAt)), (h_this_secondAt, .inl (cI, 8, .inl f_this_secondAt)), (h_this_spans, .inl (cI, 24, .inl f_this_spans)), (h_this_row, .inl (cJ, 16, .inr (.inl f_this_row)))] := hD
        obtain ⟨i_this_7, f_this_row_8, hc9, h⟩ := bd2_at h
        refine kjV (kV (own := "DateSpansModel") (C := "DateSpansModel") (b := h_this) (As := [.long v7]) (rest := []) ⟨hx, hb, hml, hown, hts⟩ (kX10_tell l dC dI cI cJ cB h_this h_this_dayAt h_this_secondAt h_this_spans h_this_kept h_this_text h_this_row h_this_read h_this_many h_this_first h_this_lengths h_this_page N v7 (upd i_this 8 (0 : Int32)) j_this f_this_row i_this_7 f_this_row_8 hc9 _) (kgV (kq q_1221 rfl) (kq q_1223 rfl) (kq q_29 rfl) (kq q_66 rfl) (kq q_1224 rfl)) yd_X10_tell ⟨Nat.le_of_ble_eq_true rfl, Nat.le_of_ble_eq_true rfl⟩ hN hK hP hD [0, 4] rfl rfl (ci := 9) rfl rfl rfl rfl rfl hl.1 rfl (lv_room (Nat.le_of_ble_eq_true rfl)) dX10_runs_178) hP hD hS hA [0, 4] rfl rfl (fun H locs hP hD hS => ?_)
        have hP : va_P (dC, dI) vwCl [cl_X10 h_this h_this_dayAt h_this_secondAt h_this_spans h_this_kept h_this_text h_this_row h_this_read h_this_many h_this_first h_this_lengths h_this_page i_this_7 j_this, (h_this_dayAt, .inl (cI, 8, .inl f_this_dayAt)), (h_this_secondAt, .inl (cI, 8, .inl f_this_secondAt)), (h_this_spans, .inl (cI, 24, .inl f_this_spans)), (h_this_row, .inl (cJ, 16, .inr (.inl f_this_row_8)))] H := hP
        have hD : va_D A [cl_X10 h_this h_this_dayAt h_this_secondAt h_this_spans h_this_kept h_this_text h_this_row h_this_read h_this_many h_this_first h_this_lengths h_this_page i_this_7 j_this, (h_this_dayAt, .inl (cI, 8, .inl f_this_dayAt)), (h_this_secondAt, .inl (cI, 8, .inl f_this_secondAt)), (h_this_spans, .inl (cI, 24, .inl f_this_spans)), (h_this_row, .inl (cJ, 16, .inr (.inl f_this_row_8)))] := hD
        refine lv_aload_n hx hb dX10_runs_181 rfl (lv_at hl 0 rfl) ?_
        refine lv_iload hx hb dX10_runs_182 (lv_at hl 7 rfl) ?_
        refine lv_i2l hx hb dX10_runs_184 rfl ?_
        obtain ⟨i_this_10, f_this_row_11, hc12, h⟩ := bd2_at h
        refine kjV (kV (own := "DateSpansModel") (C := "DateSpansModel") (b := h_this) (As := [.long v9.toInt64]) (rest := []) ⟨hx, hb, hml, hown, hts⟩ (kX10_tell l dC dI cI cJ cB h_this h_this_dayAt h_this_secondAt h_this_spans h_this_kept h_this_text h_this_row h_this_read h_this_many h_this_first h_this_lengths h_this_page N v9.toInt64 i_this_7 j_this f_this_row_8 i_this_10 f_this_row_11 hc12 _) (kgV (kq q_1221 rfl) (kq q_1223 rfl) (kq q_29 rfl) (kq q_66 rfl) (kq q_1224 rfl)) yd_X10_tell ⟨Nat.le_of_ble_eq_true rfl, Nat.le_of_ble_eq_true rfl⟩ hN hK hP hD [0, 4] rfl rfl (ci := 9) rfl rfl rfl rfl rfl hl.1 rfl (lv_room (Nat.le_of_ble_eq_true rfl)) dX10_runs_185) hP hD hS hA [0, 4] rfl rfl (fun H locs hP hD hS => ?_)
        have hP : va_P (dC, dI) vwCl [cl_X10 h_this h_this_dayAt h_this_secondAt h_this_spans h_this_kept h_this_text h_this_row h_this_read h_this_many h_this_first h_this_lengths h_this_page i_this_10 j_this, (h_this_dayAt, .inl (cI, 8, .inl f_this_dayAt)), (h_this_secondAt, .inl (cI, 8, .inl f_this_secondAt)), (h_this_spans, .inl (cI, 24, .inl f_this_spans)), (h_this_row, .inl (cJ, 16, .inr (.inl f_this_row_11)))] H := hP
        have hD : va_D A [cl_X10 h_this h_this_dayAt h_this_secondAt h_this_spans h_this_kept h_this_text h_this_row h_this_read h_this_many h_this_first h_this_lengths h_this_page i_this_10 j_this, (h_this_dayAt, .inl (cI, 8, .inl f_this_dayAt)), (h_this_secondAt, .inl (cI, 8, .inl f_this_secondAt)), (h_this_spans, .inl (cI, 24, .inl f_this_spans)), (h_this_row, .inl (cJ, 16, .inr (.inl f_this_row_11)))] := hD
        refine lv_aload_n hx hb dX10_runs_188 rfl (lv_at hl 0 rfl) ?_
        refine lv_iload hx hb dX10_runs_189 (lv_at hl 8 rfl) ?_
        refine lv_i2l hx hb dX10_runs_191 rfl ?_
        obtain ⟨i_this_13, f_this_row_14, hc15, h⟩ := bd2_at h
        refine kjV (kV (own := "DateSpansModel") (C := "DateSpansModel") (b := h_this) (As := [.long v10.toInt64]) (rest := []) ⟨hx, hb, hml, hown, hts⟩ (kX10_tell l dC dI cI cJ cB h_this h_this_dayAt h_this_secondAt h_this_spans h_this_kept h_this_text h_this_row h_this_read h_this_many h_this_first h_this_lengths h_this_page N v10.toInt64 i_this_10 j_this f_this_row_11 i_this_13 f_this_row_14 hc15 _) (kgV (kq q_1221 rfl) (kq q_1223 rfl) (kq q_29 rfl) (kq q_66 rfl) (kq q_1224 rfl)) yd_X10_tell ⟨Nat.le_of_ble_eq_true rfl, Nat.le_of_ble_eq_true rfl⟩ hN hK hP hD [0, 4] rfl rfl (ci := 9) rfl rfl rfl rfl rfl hl.1 rfl (lv_room (Nat.le_of_ble_eq_true rfl)) dX10_runs_192) hP hD hS hA [0, 4] rfl rfl (fun H locs hP hD hS => ?_)
        have hP : va_P (dC, dI) vwCl [cl_X10 h_this h_this_dayAt h_this_secondAt h_this_spans h_this_kept h_this_text h_this_row h_this_read h_this_many h_this_first h_this_lengths h_this_page i_this_13 j_this, (h_this_dayAt, .inl (cI, 8, .inl f_this_dayAt)), (h_this_secondAt, .inl (cI, 8, .inl f_this_secondAt)), (h_this_spans, .inl (cI, 24, .inl f_this_spans)), (h_this_row, .inl (cJ, 16, .inr (.inl f_this_row_14)))] H := hP
        have hD : va_D A [cl_X10 h_this h_this_dayAt h_this_secondAt h_this_spans h_this_kept h_this_text h_this_row h_this_read h_this_many h_this_first h_this_lengths h_this_page i_this_13 j_this, (h_this_dayAt, .inl (cI, 8, .inl f_this_dayAt)), (h_this_secondAt, .inl (cI, 8, .inl f_this_secondAt)), (h_this_spans, .inl (cI, 24, .inl f_this_spans)), (h_this_row, .inl (cJ, 16, .inr (.inl f_this_row_14)))] := hD
        refine lv_lload hx hb dX10_runs_195 (lv_at hl 5 rfl) ?_
        obtain ⟨rfl, rfl, rfl⟩ := pj3 h
        exact hEnd _ _ _ _ hP hS dX10_runs_197
      have h := ite_f c6 h
      refine lv_aload_n hx hb dX10_runs_87 rfl (lv_at hl 0 rfl) ?_
      refine lv_iload_n hx hb dX10_runs_88 rfl (lv_at hl 1 rfl) ?_
      refine lv_iload_n hx hb dX10_runs_89 rfl (lv_at hl 2 rfl) ?_
      refine lv_iload_n hx hb dX10_runs_90 rfl (lv_at hl 3 rfl) ?_
      refine lv_iload hx hb dX10_runs_91 (lv_at hl 10 rfl) ?_
      refine lv_iconst (v := (1 : Int32)) hx hb dX10_runs_93 (by decide) ?_
      refine lv_iadd hx hb dX10_runs_94 ?_
      obtain ⟨r16, i_this_17, hc18, h⟩ := bd2_at h
      refine kjI (kV (own := "DateSpansModel") (C := "DateSpansModel") (b := h_this) (As := [.int v1, .int v2, .int v3, .int (v13 + (1 : Int32))]) (rest := []) ⟨hx, hb, hml, hown, hts⟩ (kX10_leads l dC dI cI cJ cB h_this h_this_dayAt h_this_secondAt h_this_spans h_this_kept h_this_text h_this_row h_this_read h_this_many h_this_first h_this_lengths h_this_page N v1 v2 v3 (v13 + (1 : Int32)) i_this j_this f_this_dayAt f_this_secondAt f_this_spans r16 i_this_17 hc18 _) (kgV (kq q_1419 rfl) (kq q_1421 rfl) (kq q_48 rfl) (kq q_66 rfl) (kq q_1422 rfl)) yd_X10_leads ⟨Nat.le_of_ble_eq_true rfl, Nat.le_of_ble_eq_true rfl⟩ hN hK hP hD [0, 1, 2, 3] rfl rfl (ci := 9) rfl rfl rfl rfl rfl hl.1 rfl (lv_room (Nat.le_of_ble_eq_true rfl)) dX10_runs_95) hP hD hS hA [0, 1, 2, 3] rfl rfl (fun H locs hP hD hS => ?_)
      have hP : va_P (dC, dI) vwCl [cl_X10 h_this h_this_dayAt h_this_secondAt h_this_spans h_this_kept h_this_text h_this_row h_this_read h_this_many h_this_first h_this_lengths h_this_page i_this_17 j_this, (h_this_dayAt, .inl (cI, 8, .inl f_this_dayAt)), (h_this_secondAt, .inl (cI, 8, .inl f_this_secondAt)), (h_this_spans, .inl (cI, 24, .inl f_this_spans)), (h_this_row, .inl (cJ, 16, .inr (.inl f_this_row)))] H := hP
      have hD : va_D A [cl_X10 h_this h_this_dayAt h_this_secondAt h_this_spans h_this_kept h_this_text h_this_row h_this_read h_this_many h_this_first h_this_lengths h_this_page i_this_17 j_this, (h_this_dayAt, .inl (cI, 8, .inl f_this_dayAt)), (h_this_secondAt, .inl (cI, 8, .inl f_this_secondAt)), (h_this_spans, .inl (cI, 24, .inl f_this_spans)), (h_this_row, .inl (cJ, 16, .inr (.inl f_this_row)))] := hD
      refine lv_if_ne (tgt := 105) hx hb dX10_runs_98 (by decide) (fun c19 => ?_) (fun c19 => ?_)
      · have h := ite_f c19 h
        refine lv_aload_n hx hb dX10_runs_105 rfl (lv_at hl 0 rfl) ?_
        obtain ⟨r20, hc21, h⟩ := bd1_at h
        refine kjL (kV (own := "DateSpansModel") (C := "DateSpansModel") (b := h_this) (As := []) (rest := []) ⟨hx, hb, hml, hown, hts⟩ (kX10_instant l dC dI cI cJ cB h_this h_this_dayAt h_this_secondAt h_this_spans h_this_kept h_this_text h_this_row h_this_read h_this_many h_this_first h_this_lengths h_this_page N i_this_17 j_this r20 hc21 _) (kgV (kq q_1352 rfl) (kq q_1354 rfl) (kq q_42 rfl) (kq q_66 rfl) (kq q_1355 rfl)) yd_X10_instant ⟨Nat.le_of_ble_eq_true rfl, Nat.le_of_ble_eq_true rfl⟩ hN hK hP hD [0] rfl rfl (ci := 9) rfl rfl rfl rfl rfl hl.1 rfl (lv_room (Nat.le_of_ble_eq_true rfl)) dX10_runs_106) hP hD hS hA [0] rfl rfl (fun H locs hP hD hS => ?_)
        have hP : va_P (dC, dI) vwCl [cl_X10 h_this h_this_dayAt h_this_secondAt h_this_spans h_this_kept h_this_text h_this_row h_this_read h_this_many h_this_first h_this_lengths h_this_page i_this_17 j_this, (h_this_dayAt, .inl (cI, 8, .inl f_this_dayAt)), (h_this_secondAt, .inl (cI, 8, .inl f_this_secondAt)), (h_this_spans, .inl (cI, 24, .inl f_this_spans)), (h_this_row, .inl (cJ, 16, .inr (.inl f_this_row)))] H := hP
        have hD : va_D A [cl_X10 h_this h_this_dayAt h_this_secondAt h_this_spans h_this_kept h_this_text h_this_row h_this_read h_this_many h_this_first h_this_lengths h_this_page i_this_17 j_this, (h_this_dayAt, .inl (cI, 8, .inl f_this_dayAt)), (h_this_secondAt, .inl (cI, 8, .inl f_this_secondAt)), (h_this_spans, .inl (cI, 24, .inl f_this_spans)), (h_this_row, .inl (cJ, 16, .inr (.inl f_this_row)))] := hD
        refine lv_lload hx hb dX10_runs_109 (lv_at hl 9 rfl) ?_
        refine lv_lsub hx hb dX10_runs_111 ?_
        refine lv_topl (fun z22 ez22 => ?_)
        have h := nm_at ez22 h
        refine lv_lstore (lv' := [(14, .long z22), (0, .ref h_this), (1, .int v1), (2, .int v2), (3, .int v3), (4, .int v4), (5, .long v5), (7, .long v7), (9, .int v9), (10, .int v10), (11, .long v11), (13, .int v13)]) hx hb dX10_runs_112 hl (by decide) rfl (fun ls hl => ?_)
        refine lv_aload_n hx hb dX10_runs_114 rfl (lv_at hl 1 rfl) ?_
        obtain ⟨r23, hc24, h⟩ := bd1_at h
        refine kjL (kV (own := "DateSpansModel") (C := "DateSpansModel") (b := h_this) (As := []) (rest := []) ⟨hx, hb, hml, hown, hts⟩ (kX10_instant l dC dI cI cJ cB h_this h_this_dayAt h_this_secondAt h_this_spans h_this_kept h_this_text h_this_row h_this_read h_this_many h_this_first h_this_lengths h_this_page N i_this_17 j_this r23 hc24 _) (kgV (kq q_1352 rfl) (kq q_1354 rfl) (kq q_42 rfl) (kq q_66 rfl) (kq q_1355 rfl)) yd_X10_instant ⟨Nat.le_of_ble_eq_true rfl, Nat.le_of_ble_eq_true rfl⟩ hN hK hP hD [0] rfl rfl (ci := 9) rfl rfl rfl rfl rfl hl.1 rfl (lv_room (Nat.le_of_ble_eq_true rfl)) dX10_runs_115) hP hD hS hA [0] rfl rfl (fun H locs hP hD hS => ?_)
        have hP : va_P (dC, dI) vwCl [cl_X10 h_this h_this_dayAt h_this_secondAt h_this_spans h_this_kept h_this_text h_this_row h_this_read h_this_many h_this_first h_this_lengths h_this_page i_this_17 j_this, (h_this_dayAt, .inl (cI, 8, .inl f_this_dayAt)), (h_this_secondAt, .inl (cI, 8, .inl f_this_secondAt)), (h_this_spans, .inl (cI, 24, .inl f_this_spans)), (h_this_row, .inl (cJ, 16, .inr (.inl f_this_row)))] H := hP
        have hD : va_D A [cl_X10 h_this h_this_dayAt h_this_secondAt h_this_spans h_this_kept h_this_text h_this_row h_this_read h_this_many h_this_first h_this_lengths h_this_page i_this_17 j_this, (h_this_dayAt, .inl (cI, 8, .inl f_this_dayAt)), (h_this_secondAt, .inl (cI, 8, .inl f_this_secondAt)), (h_this_spans, .inl (cI, 24, .inl f_this_spans)), (h_this_row, .inl (cJ, 16, .inr (.inl f_this_row)))] := hD
        refine lv_lstore (lv' := [(11, .long r23), (14, .long z22), (0, .ref h_this), (1, .int v1), (2, .int v2), (3, .int v3), (4, .int v4), (5, .long v5), (7, .long v7), (9, .int v9), (10, .int v10), (13, .int v13)]) hx hb dX10_runs_118 hl (by decide) rfl (fun ls hl => ?_)
        refine lv_iload hx hb dX10_runs_120 (lv_at hl 9 rfl) ?_
        refine lv_iconst (v := (-1 : Int32)) hx hb dX10_runs_122 (by decide) ?_
        refine lv_icmp_eq (tgt := 134) hx hb dX10_runs_123 (by decide) (fun c25 => ?_) (fun c25 => ?_)
        · have h := ite_t c25 h
          refine lv_lload hx hb dX10_runs_134 (lv_at hl 1 rfl) ?_
          refine lv_lstore (lv' := [(5, .long z22), (11, .long r23), (14, .long z22), (0, .ref h_this), (1, .int v1), (2, .int v2), (3, .int v3), (4, .int v4), (7, .long v7), (9, .int v9), (10, .int v10), (13, .int v13)]) hx hb dX10_runs_136 hl (by decide) rfl (fun ls hl => ?_)
          refine lv_iload hx hb dX10_runs_138 (lv_at hl 11 rfl) ?_
          refine lv_istore (lv' := [(9, .int v13), (5, .long z22), (11, .long r23), (14, .long z22), (0, .ref h_this), (1, .int v1), (2, .int v2), (3, .int v3), (4, .int v4), (7, .long v7), (10, .int v10), (13, .int v13)]) hx hb dX10_runs_140 hl (by decide) rfl (fun ls hl => ?_)
          exact JN_142 _ _ _ _ _ _ _ _ _ _ _ _ _ _ _ _ h (lv_sub hl [4, 5, 6, 7, 8, 1, 9, 0, 10, 2, 11, 3] rfl) hP hD hS
        have h := ite_f c25 h
        refine lv_lload hx hb dX10_runs_126 (lv_at hl 1 rfl) ?_
        refine lv_lload hx hb dX10_runs_128 (lv_at hl 7 rfl) ?_
        refine W.lcmp hx hb dX10_runs_130 ?_
        refine lv_if_ge (tgt := 142) hx hb dX10_runs_131 (by decide) (fun c26 => ?_) (fun c26 => ?_)
        · have h := ite_t c26 h
          exact JN_142 _ _ _ _ _ _ _ _ _ _ _ _ _ _ _ _ h (lv_sub hl [2, 3, 4, 5, 6, 7, 8, 9, 10, 0, 11, 1] rfl) hP hD hS
        have h := ite_f c26 h
        refine lv_lload hx hb dX10_runs_134 (lv_at hl 1 rfl) ?_
        refine lv_lstore (lv' := [(5, .long z22), (11, .long r23), (14, .long z22), (0, .ref h_this), (1, .int v1), (2, .int v2), (3, .int v3), (4, .int v4), (7, .long v7), (9, .int v9), (10, .int v10), (13, .int v13)]) hx hb dX10_runs_136 hl (by decide) rfl (fun ls hl => ?_)
        refine lv_iload hx hb dX10_runs_138 (lv_at hl 11 rfl) ?_
        refine lv_istore (lv' := [(9, .int v13), (5, .long z22), (11, .long r23), (14, .long z22), (0, .ref h_this), (1, .int v1), (2, .int v2), (3, .int v3), (4, .int v4), (7, .long v7), (10, .int v10), (13, .int v13)]) hx hb dX10_runs_140 hl (by decide) rfl (fun ls hl => ?_)
        exact JN_142 _ _ _ _ _ _ _ _ _ _ _ _ _ _ _ _ h (lv_sub hl [4, 5, 6, 7, 8, 1, 9, 0, 10, 2, 11, 3] rfl) hP hD hS
      have h := ite_t c19 h
      refine lv_ldc2 (v := (-1000002 : Int64)) hx hb hown (hts _ (kq q_1414 rfl)) dX10_runs_101 ?_
      obtain ⟨rfl, rfl, rfl⟩ := pj3 h
      exact hEnd _ _ _ _ hP hS dX10_runs_104
  have h := hf
  unfold fX10_runs at h
  refine lv_aload_n hx hb dX10_runs_0 rfl (lv_at hl 0 rfl) ?_
  refine lv_iconst (v := (0 : Int32)) hx hb dX10_runs_1 (by decide) ?_
  refine va_put (D := (dC, dI)) (ci := 9) (v := .int (0 : Int32)) (ty := .int) (C := RX10) (T := TX10) (N := 29) hx hb hts inX10 tyX10 tyX10_ok nmX10 hown hK hP hD hS 0 rfl rfl 9 (by decide) (hts _ (kq q_995 rfl)) (fun _ h9 => h9) rfl (by decide +kernel) rfl rfl (Nat.le_of_ble_eq_true rfl) dX10_runs_2 (fun H locs hP hD hS => ?_)
  have hP : va_P (dC, dI) vwCl [(h_this, .inr (9, [.ref h_this_dayAt, .ref h_this_secondAt, .ref h_this_spans, .ref h_this_kept, .int (i_this 4), .ref h_this_text, .int (i_this 6), .ref h_this_row, .int (i_this 8), .int (0 : Int32), .int (i_this 10), .int (i_this 11), .int (i_this 12), .int (i_this 13), .int (i_this 14), .int (i_this 15), .int (i_this 16), .int (i_this 17), .int (i_this 18), .ref h_this_read, .long (j_this 20), .ref h_this_many, .ref h_this_first, .ref h_this_lengths, .int (i_this 24), .long (j_this 25), .long (j_this 26), .ref h_this_page, .int (i_this 28)])), (h_this_dayAt, .inl (cI, 8, .inl f_this_dayAt)), (h_this_secondAt, .inl (cI, 8, .inl f_this_secondAt)), (h_this_spans, .inl (cI, 24, .inl f_this_spans)), (h_this_row, .inl (cJ, 16, .inr (.inl f_this_row)))] H := hP
  have hD : va_D A [(h_this, .inr (9, [.ref h_this_dayAt, .ref h_this_secondAt, .ref h_this_spans, .ref h_this_kept, .int (i_this 4), .ref h_this_text, .int (i_this 6), .ref h_this_row, .int (i_this 8), .int (0 : Int32), .int (i_this 10), .int (i_this 11), .int (i_this 12), .int (i_this 13), .int (i_this 14), .int (i_this 15), .int (i_this 16), .int (i_this 17), .int (i_this 18), .ref h_this_read, .long (j_this 20), .ref h_this_many, .ref h_this_first, .ref h_this_lengths, .int (i_this 24), .long (j_this 25), .long (j_this 26), .ref h_this_page, .int (i_this 28)])), (h_this_dayAt, .inl (cI, 8, .inl f_this_dayAt)), (h_this_secondAt, .inl (cI, 8, .inl f_this_secondAt)), (h_this_spans, .inl (cI, 24, .inl f_this_spans)), (h_this_row, .inl (cJ, 16, .inr (.inl f_this_row)))] := hD
  refine lv_iload_n hx hb dX10_runs_5 rfl (lv_at hl 1 rfl) ?_
  have hP : va_P (dC, dI) vwCl [cl_X10 h_this h_this_dayAt h_this_secondAt h_this_spans h_this_kept h_this_text h_this_row h_this_read h_this_many h_this_first h_this_lengths h_this_page (upd i_this 9 (0 : Int32)) j_this, (h_this_dayAt, .inl (cI, 8, .inl f_this_dayAt)), (h_this_secondAt, .inl (cI, 8, .inl f_this_secondAt)), (h_this_spans, .inl (cI, 24, .inl f_this_spans)), (h_this_row, .inl (cJ, 16, .inr (.inl f_this_row)))] H := hP
  have hD : va_D A [cl_X10 h_this h_this_dayAt h_this_secondAt h_this_spans h_this_kept h_this_text h_this_row h_this_read h_this_many h_this_first h_this_lengths h_this_page (upd i_this 9 (0 : Int32)) j_this, (h_this_dayAt, .inl (cI, 8, .inl f_this_dayAt)), (h_this_secondAt, .inl (cI, 8, .inl f_this_secondAt)), (h_this_spans, .inl (cI, 24, .inl f_this_spans)), (h_this_row, .inl (cJ, 16, .inr (.inl f_this_row)))] := hD
  obtain ⟨r27, hc28, h⟩ := bd1_at h
  refine kjSI (kS0 (own := "DateSpansModel") (As := [.int p1]) (rest := []) ⟨hx, hb, hml, hown, hts⟩ (kX10_isSlot l N p1 r27 hc28) (kgS (kq q_1123 rfl) (kq q_1124 rfl) (kq q_66 rfl) (kq q_1125 rfl)) yd_X10_isSlot ⟨Nat.le_of_ble_eq_true rfl, Nat.le_of_ble_eq_true rfl⟩ rfl rfl hl.1 rfl (lv_room (Nat.le_of_ble_eq_true rfl)) dX10_runs_6) ?_
  refine lv_if_eq (tgt := 39) hx hb dX10_runs_9 (by decide) (fun c29 => ?_) (fun c29 => ?_)
  · have h := ite_t c29 h
    refine lv_ldc2 (v := (-1 : Int64)) hx hb hown (hts _ (kq q_1363 rfl)) dX10_runs_39 ?_
    obtain ⟨rfl, rfl, rfl⟩ := pj3 h
    exact hEnd _ _ _ _ hP hS dX10_runs_42
  have h := ite_f c29 h
  refine lv_iload_n hx hb dX10_runs_12 rfl (lv_at hl 2 rfl) ?_
  obtain ⟨r30, hc31, h⟩ := bd1_at h
  refine kjSI (kS0 (own := "DateSpansModel") (As := [.int p2]) (rest := []) ⟨hx, hb, hml, hown, hts⟩ (kX10_isSlot l N p2 r30 hc31) (kgS (kq q_1123 rfl) (kq q_1124 rfl) (kq q_66 rfl) (kq q_1125 rfl)) yd_X10_isSlot ⟨Nat.le_of_ble_eq_true rfl, Nat.le_of_ble_eq_true rfl⟩ rfl rfl hl.1 rfl (lv_room (Nat.le_of_ble_eq_true rfl)) dX10_runs_13) ?_
  refine lv_if_eq (tgt := 39) hx hb dX10_runs_16 (by decide) (fun c32 => ?_) (fun c32 => ?_)
  · have h := ite_t c32 h
    refine lv_ldc2 (v := (-1 : Int64)) hx hb hown (hts _ (kq q_1363 rfl)) dX10_runs_39 ?_
    obtain ⟨rfl, rfl, rfl⟩ := pj3 h
    exact hEnd _ _ _ _ hP hS dX10_runs_42
  have h := ite_f c32 h
  refine lv_iload_n hx hb dX10_runs_19 rfl (lv_at hl 3 rfl) ?_
  obtain ⟨r33, hc34, h⟩ := bd1_at h
  refine kjSI (kS0 (own := "DateSpansModel") (As := [.int p3]) (rest := []) ⟨hx, hb, hml, hown, hts⟩ (kX10_isLaw l N p3 r33 hc34) (kgS (kq q_1275 rfl) (kq q_1276 rfl) (kq q_66 rfl) (kq q_1277 rfl)) yd_X10_isLaw ⟨Nat.le_of_ble_eq_true rfl, Nat.le_of_ble_eq_true rfl⟩ rfl rfl hl.1 rfl (lv_room (Nat.le_of_ble_eq_true rfl)) dX10_runs_20) ?_
  refine lv_if_eq (tgt := 39) hx hb dX10_runs_23 (by decide) (fun c35 => ?_) (fun c35 => ?_)
  · have h := ite_t c35 h
    refine lv_ldc2 (v := (-1 : Int64)) hx hb hown (hts _ (kq q_1363 rfl)) dX10_runs_39 ?_
    obtain ⟨rfl, rfl, rfl⟩ := pj3 h
    exact hEnd _ _ _ _ hP hS dX10_runs_42
  have h := ite_f c35 h
  refine lv_iload hx hb dX10_runs_26 (lv_at hl 4 rfl) ?_
  refine lv_i2l hx hb dX10_runs_28 rfl ?_
  refine lv_lconst (v := (1 : Int64)) hx hb dX10_runs_29 (by decide) ?_
  refine lv_ldc2 (v := (1000 : Int64)) hx hb hown (hts _ (kq q_1412 rfl)) dX10_runs_30 ?_
  obtain ⟨r36, hc37, h⟩ := bd1_at h
  refine kjSI (kS0 (own := "DateSpansModel") (As := [.long p4.toInt64, .long (1 : Int64), .long (1000 : Int64)]) (rest := []) ⟨hx, hb, hml, hown, hts⟩ (kX10_in l N p4.toInt64 (1 : Int64) (1000 : Int64) r36 hc37) (kgS (kq q_1086 rfl) (kq q_1087 rfl) (kq q_66 rfl) (kq q_1088 rfl)) yd_X10_in ⟨Nat.le_of_ble_eq_true rfl, Nat.le_of_ble_eq_true rfl⟩ rfl rfl hl.1 rfl (lv_room (Nat.le_of_ble_eq_true rfl)) dX10_runs_33) ?_
  refine lv_if_ne (tgt := 43) hx hb dX10_runs_36 (by decide) (fun c38 => ?_) (fun c38 => ?_)
  · have h := ite_f c38 h
    refine lv_aload_n hx hb dX10_runs_43 rfl (lv_at hl 0 rfl) ?_
    refine lv_iload_n hx hb dX10_runs_44 rfl (lv_at hl 2 rfl) ?_
    refine lv_iload hx hb dX10_runs_45 (lv_at hl 4 rfl) ?_
    refine lv_i2l hx hb dX10_runs_47 rfl ?_
    obtain ⟨r39, hc40, h⟩ := bd1_at h
    refine kjI (kV (own := "DateSpansModel") (C := "DateSpansModel") (b := h_this) (As := [.int p2, .long p4.toInt64]) (rest := []) ⟨hx, hb, hml, hown, hts⟩ (kX10_isBeyond l dC dI cI cJ cB h_this h_this_dayAt h_this_secondAt h_this_spans h_this_kept h_this_text h_this_row h_this_read h_this_many h_this_first h_this_lengths h_this_page N p2 p4.toInt64 (upd i_this 9 (0 : Int32)) j_this f_this_spans r39 hc40 _) (kgV (kq q_1387 rfl) (kq q_1389 rfl) (kq q_44 rfl) (kq q_66 rfl) (kq q_1390 rfl)) yd_X10_isBeyond ⟨Nat.le_of_ble_eq_true rfl, Nat.le_of_ble_eq_true rfl⟩ hN hK hP hD [0, 3] rfl rfl (ci := 9) rfl rfl rfl rfl rfl hl.1 rfl (lv_room (Nat.le_of_ble_eq_true rfl)) dX10_runs_48) hP hD hS hA [0, 3] rfl rfl (fun H locs hP hD hS => ?_)
    have hP : va_P (dC, dI) vwCl [cl_X10 h_this h_this_dayAt h_this_secondAt h_this_spans h_this_kept h_this_text h_this_row h_this_read h_this_many h_this_first h_this_lengths h_this_page (upd i_this 9 (0 : Int32)) j_this, (h_this_dayAt, .inl (cI, 8, .inl f_this_dayAt)), (h_this_secondAt, .inl (cI, 8, .inl f_this_secondAt)), (h_this_spans, .inl (cI, 24, .inl f_this_spans)), (h_this_row, .inl (cJ, 16, .inr (.inl f_this_row)))] H := hP
    have hD : va_D A [cl_X10 h_this h_this_dayAt h_this_secondAt h_this_spans h_this_kept h_this_text h_this_row h_this_read h_this_many h_this_first h_this_lengths h_this_page (upd i_this 9 (0 : Int32)) j_this, (h_this_dayAt, .inl (cI, 8, .inl f_this_dayAt)), (h_this_secondAt, .inl (cI, 8, .inl f_this_secondAt)), (h_this_spans, .inl (cI, 24, .inl f_this_spans)), (h_this_row, .inl (cJ, 16, .inr (.inl f_this_row)))] := hD
    refine lv_if_eq (tgt := 58) hx hb dX10_runs_51 (by decide) (fun c41 => ?_) (fun c41 => ?_)
    · have h := ite_t c41 h
      refine lv_lconst (v := (0 : Int64)) hx hb dX10_runs_58 (by decide) ?_
      refine lv_lstore (lv' := [(5, .long (0 : Int64)), (0, .ref h_this), (1, .int p1), (2, .int p2), (3, .int p3), (4, .int p4)]) hx hb dX10_runs_59 hl (by decide) rfl (fun ls hl => ?_)
      refine lv_lconst (v := (0 : Int64)) hx hb dX10_runs_61 (by decide) ?_
      refine lv_lstore (lv' := [(7, .long (0 : Int64)), (5, .long (0 : Int64)), (0, .ref h_this), (1, .int p1), (2, .int p2), (3, .int p3), (4, .int p4)]) hx hb dX10_runs_62 hl (by decide) rfl (fun ls hl => ?_)
      refine lv_iconst (v := (-1 : Int32)) hx hb dX10_runs_64 (by decide) ?_
      refine lv_istore (lv' := [(9, .int (-1 : Int32)), (7, .long (0 : Int64)), (5, .long (0 : Int64)), (0, .ref h_this), (1, .int p1), (2, .int p2), (3, .int p3), (4, .int p4)]) hx hb dX10_runs_65 hl (by decide) rfl (fun ls hl => ?_)
      refine lv_iconst (v := (-1 : Int32)) hx hb dX10_runs_67 (by decide) ?_
      refine lv_istore (lv' := [(10, .int (-1 : Int32)), (9, .int (-1 : Int32)), (7, .long (0 : Int64)), (5, .long (0 : Int64)), (0, .ref h_this), (1, .int p1), (2, .int p2), (3, .int p3), (4, .int p4)]) hx hb dX10_runs_68 hl (by decide) rfl (fun ls hl => ?_)
      refine lv_aload_n hx hb dX10_runs_70 rfl (lv_at hl 4 rfl) ?_
      refine lv_iload_n hx hb dX10_runs_71 rfl (lv_at hl 5 rfl) ?_
      obtain ⟨r42, hc43, h⟩ := bd1_at h
      refine kjL (kV (own := "DateSpansModel") (C := "DateSpansModel") (b := h_this) (As := [.int p1]) (rest := []) ⟨hx, hb, hml, hown, hts⟩ (kX10_instantOf l dC dI cI cJ cB h_this h_this_dayAt h_this_secondAt h_this_spans h_this_kept h_this_text h_this_row h_this_read h_this_many h_this_first h_this_lengths h_this_page N p1 (upd i_this 9 (0 : Int32)) j_this f_this_dayAt f_this_secondAt r42 hc43 _) (kgV (kq q_1340 rfl) (kq q_1342 rfl) (kq q_39 rfl) (kq q_66 rfl) (kq q_1343 rfl)) yd_X10_instantOf ⟨Nat.le_of_ble_eq_true rfl, Nat.le_of_ble_eq_true rfl⟩ hN hK hP hD [0, 1, 2] rfl rfl (ci := 9) rfl rfl rfl rfl rfl hl.1 rfl (lv_room (Nat.le_of_ble_eq_true rfl)) dX10_runs_72) hP hD hS hA [0, 1, 2] rfl rfl (fun H locs hP hD hS => ?_)
      have hP : va_P (dC, dI) vwCl [cl_X10 h_this h_this_dayAt h_this_secondAt h_this_spans h_this_kept h_this_text h_this_row h_this_read h_this_many h_this_first h_this_lengths h_this_page (upd i_this 9 (0 : Int32)) j_this, (h_this_dayAt, .inl (cI, 8, .inl f_this_dayAt)), (h_this_secondAt, .inl (cI, 8, .inl f_this_secondAt)), (h_this_spans, .inl (cI, 24, .inl f_this_spans)), (h_this_row, .inl (cJ, 16, .inr (.inl f_this_row)))] H := hP
      have hD : va_D A [cl_X10 h_this h_this_dayAt h_this_secondAt h_this_spans h_this_kept h_this_text h_this_row h_this_read h_this_many h_this_first h_this_lengths h_this_page (upd i_this 9 (0 : Int32)) j_this, (h_this_dayAt, .inl (cI, 8, .inl f_this_dayAt)), (h_this_secondAt, .inl (cI, 8, .inl f_this_secondAt)), (h_this_spans, .inl (cI, 24, .inl f_this_spans)), (h_this_row, .inl (cJ, 16, .inr (.inl f_this_row)))] := hD
      refine lv_lstore (lv' := [(11, .long r42), (10, .int (-1 : Int32)), (9, .int (-1 : Int32)), (7, .long (0 : Int64)), (5, .long (0 : Int64)), (0, .ref h_this), (1, .int p1), (2, .int p2), (3, .int p3), (4, .int p4)]) hx hb dX10_runs_75 hl (by decide) rfl (fun ls hl => ?_)
      refine lv_iconst (v := (0 : Int32)) hx hb dX10_runs_77 (by decide) ?_
      refine lv_istore (lv' := [(13, .int (0 : Int32)), (11, .long r42), (10, .int (-1 : Int32)), (9, .int (-1 : Int32)), (7, .long (0 : Int64)), (5, .long (0 : Int64)), (0, .ref h_this), (1, .int p1), (2, .int p2), (3, .int p3), (4, .int p4)]) hx hb dX10_runs_78 hl (by decide) rfl (fun ls hl => ?_)
      exact LP_80 N _ _ _ _ _ _ _ _ _ _ _ _ _ _ _ h (lv_sub hl [6, 7, 8, 9, 10, 5, 4, 3, 2, 1, 0] rfl) hP hD hS
    have h := ite_f c41 h
    refine lv_ldc2 (v := (-1000009 : Int64)) hx hb hown (hts _ (kq q_1413 rfl)) dX10_runs_54 ?_
    obtain ⟨rfl, rfl, rfl⟩ := pj3 h
    exact hEnd _ _ _ _ hP hS dX10_runs_57
  have h := ite_t c38 h
  refine lv_ldc2 (v := (-1 : Int64)) hx hb hown (hts _ (kq q_1363 rfl)) dX10_runs_39 ?_
  obtain ⟨rfl, rfl, rfl⟩ := pj3 h
  exact hEnd _ _ _ _ hP hS dX10_runs_42
noncomputable def fX10_next_l39 (N : Nat) (j_this : Nat → Int64) (f_this_dayAt : Nat → Int32) (f_this_secondAt : Nat → Int32) (f_this_spans : Nat → Int32) (n : Nat) : Int32 → Int32 → Int32 → Int32 → Int32 → (Nat → Int32) → (Nat → Int64) → Option (Int32 × (Nat → Int32) × (Nat → Int64)) := Nat.rec (motive := fun _ => Int32 → Int32 → Int32 → Int32 → Int32 → (Nat → Int32) → (Nat → Int64) → Option (Int32 × (Nat → Int32) × (Nat → Int64))) (fun _ _ _ _ _ _ _ => none) (fun _ K_39 v1 v2 v3 v4 v5 i_this f_this_row => (if (10000 : Int32) < v5 then (some ((-2 : Int32), i_this, f_this_row)) else (bd2 (fX10_leads N v1 v2 v3 v5 i_this j_this f_this_dayAt f_this_secondAt f_this_spans) fun r2 i_this_3 => (if r2 = (0 : Int32) then (nm (v5 + (1 : Int32)) fun z6 => (K_39 v1 v2 v3 v4 z6 i_this_3 f_this_row)) else (bd1 (fX10_instant N i_this_3 j_this) fun r7 => (bd1 (fX10_instantOf N v4 i_this_3 j_this f_this_dayAt f_this_secondAt) fun r9 => (if (0 : Int32) ≤ (lg_cmp r7 r9) then (bd2 (fX10_tell N ((i_this_3 13).toInt64) (upd i_this_3 8 (0 : Int32)) j_this f_this_row) fun i_this_12 f_this_row_13 => (bd2 (fX10_tell N ((i_this_12 14).toInt64) i_this_12 j_this f_this_row_13) fun i_this_15 f_this_row_16 => (some (v5, i_this_15, f_this_row_16)))) else (nm (v5 + (1 : Int32)) fun z18 => (K_39 v1 v2 v3 v4 z18 i_this_3 f_this_row))))))))) n
theorem fX10_next_l39_s (N : Nat) (j_this : Nat → Int64) (f_this_dayAt : Nat → Int32) (f_this_secondAt : Nat → Int32) (f_this_spans : Nat → Int32) (n : Nat) (v1 : Int32) (v2 : Int32) (v3 : Int32) (v4 : Int32) (v5 : Int32) (i_this : Nat → Int32) (f_this_row : Nat → Int64) : fX10_next_l39 N j_this f_this_dayAt f_this_secondAt f_this_spans (n + 1) v1 v2 v3 v4 v5 i_this f_this_row = (if (10000 : Int32) < v5 then (some ((-2 : Int32), i_this, f_this_row)) else (bd2 (fX10_leads N v1 v2 v3 v5 i_this j_this f_this_dayAt f_this_secondAt f_this_spans) fun r2 i_this_3 => (if r2 = (0 : Int32) then (nm (v5 + (1 : Int32)) fun z6 => ((fX10_next_l39 N j_this f_this_dayAt f_this_secondAt f_this_spans n) v1 v2 v3 v4 z6 i_this_3 f_this_row)) else (bd1 (fX10_instant N i_this_3 j_this) fun r7 => (bd1 (fX10_instantOf N v4 i_this_3 j_this f_this_dayAt f_this_secondAt) fun r9 => (if (0 : Int32) ≤ (lg_cmp r7 r9) then (bd2 (fX10_tell N ((i_this_3 13).toInt64) (upd i_this_3 8 (0 : Int32)) j_this f_this_row) fun i_this_12 f_this_row_13 => (bd2 (fX10_tell N ((i_this_12 14).toInt64) i_this_12 j_this f_this_row_13) fun i_this_15 f_this_row_16 => (some (v5, i_this_15, f_this_row_16)))) else (nm (v5 + (1 : Int32)) fun z18 => ((fX10_next_l39 N j_this f_this_dayAt f_this_secondAt f_this_spans n) v1 v2 v3 v4 z18 i_this_3 f_this_row)))))))) := rfl
theorem fX10_next_l39_0 (N : Nat) (j_this : Nat → Int64) (f_this_dayAt : Nat → Int32) (f_this_secondAt : Nat → Int32) (f_this_spans : Nat → Int32) (v1 : Int32) (v2 : Int32) (v3 : Int32) (v4 : Int32) (v5 : Int32) (i_this : Nat → Int32) (f_this_row : Nat → Int64) : fX10_next_l39 N j_this f_this_dayAt f_this_secondAt f_this_spans 0 v1 v2 v3 v4 v5 i_this f_this_row = none := rfl
noncomputable def fX10_next (N : Nat) (p1 : Int32) (p2 : Int32) (p3 : Int32) (p4 : Int32) (i_this : Nat → Int32) (j_this : Nat → Int64) (f_this_dayAt : Nat → Int32) (f_this_secondAt : Nat → Int32) (f_this_spans : Nat → Int32) (f_this_row : Nat → Int64) : Option (Int32 × (Nat → Int32) × (Nat → Int64)) := (bd1 (fX10_isSlot N p1) fun r19 => (if r19 = (0 : Int32) then (some ((-1 : Int32), (upd i_this 9 (0 : Int32)), f_this_row)) else (bd1 (fX10_isSlot N p2) fun r22 => (if r22 = (0 : Int32) then (some ((-1 : Int32), (upd i_this 9 (0 : Int32)), f_this_row)) else (bd1 (fX10_isLaw N p3) fun r25 => (if r25 = (0 : Int32) then (some ((-1 : Int32), (upd i_this 9 (0 : Int32)), f_this_row)) else (bd1 (fX10_isSlot N p4) fun r28 => (if r28 = (0 : Int32) then (some ((-1 : Int32), (upd i_this 9 (0 : Int32)), f_this_row)) else (fX10_next_l39 N j_this f_this_dayAt f_this_secondAt f_this_spans N p1 p2 p3 p4 (0 : Int32) (upd i_this 9 (0 : Int32)) f_this_row)))))))))
set_option maxHeartbeats 4000000 in
set_option maxRecDepth 100000 in
theorem kX10_next (l : Launch) (dC : Nat → ClassId) (dI : Nat → Nat → Nat) (cI cJ cB : ClassId) (h_this h_this_dayAt h_this_secondAt h_this_spans h_this_kept h_this_text h_this_row h_this_read h_this_many h_this_first h_this_lengths h_this_page : Nat) (N : Nat) (p1 : Int32) (p2 : Int32) (p3 : Int32) (p4 : Int32) (i_this : Nat → Int32) (j_this : Nat → Int64) (f_this_dayAt : Nat → Int32) (f_this_secondAt : Nat → Int32) (f_this_spans : Nat → Int32) (f_this_row : Nat → Int64) (r : Int32) (o_i_this : Nat → Int32) (o_f_this_row : Nat → Int64) (hf : fX10_next N p1 p2 p3 p4 i_this j_this f_this_dayAt f_this_secondAt f_this_spans f_this_row = some (r, o_i_this, o_f_this_row)) : MI l yX10_next (kws yX10_next cX10_next 6 (some .int)) (kR 7 174) (dC, dI) (kT cI cJ cB) [.ref h_this, .int p1, .int p2, .int p3, .int p4] [cl_X10 h_this h_this_dayAt h_this_secondAt h_this_spans h_this_kept h_this_text h_this_row h_this_read h_this_many h_this_first h_this_lengths h_this_page i_this j_this, (h_this_dayAt, .inl (cI, 8, .inl f_this_dayAt)), (h_this_secondAt, .inl (cI, 8, .inl f_this_secondAt)), (h_this_spans, .inl (cI, 24, .inl f_this_spans)), (h_this_row, .inl (cJ, 16, .inr (.inl f_this_row)))] [cl_X10 h_this h_this_dayAt h_this_secondAt h_this_spans h_this_kept h_this_text h_this_row h_this_read h_this_many h_this_first h_this_lengths h_this_page o_i_this j_this, (h_this_dayAt, .inl (cI, 8, .inl f_this_dayAt)), (h_this_secondAt, .inl (cI, 8, .inl f_this_secondAt)), (h_this_spans, .inl (cI, 24, .inl f_this_spans)), (h_this_row, .inl (cJ, 16, .inr (.inl o_f_this_row)))] r := by
  refine MI.of (cc := cX10_next) (maxL := 6) (by decide) (Nat.le_of_ble_eq_true rfl) (fun p e s m args below meth c A Q ls KC hN hK hP hD hA hl hEnd => ?_)
  obtain ⟨hx, hb, hml, hown, hts⟩ := KC
  have hown : s.vm.findClass "DateSpansModel" = some m.cls := hown
  have hl : lv_has ls 6 [(0, .ref h_this), (1, .int p1), (2, .int p2), (3, .int p3), (4, .int p4)] := hl
  have hS : va_S A s.heap s.heap [] := va_S.rf
  have LP_39 : ∀ n_39 : Nat, ∀ (v1 : Int32) (v2 : Int32) (v3 : Int32) (v4 : Int32) (v5 : Int32) (i_this : Nat → Int32) (f_this_row : Nat → Int64) (ls : Array Slot) (H : Heap) (locs : List Loc), fX10_next_l39 N j_this f_this_dayAt f_this_secondAt f_this_spans n_39 v1 v2 v3 v4 v5 i_this f_this_row = some (r, o_i_this, o_f_this_row) → lv_has ls 6 [(0, .ref h_this), (1, .int v1), (2, .int v2), (3, .int v3), (4, .int v4), (5, .int v5)] → va_P (dC, dI) vwCl [cl_X10 h_this h_this_dayAt h_this_secondAt h_this_spans h_this_kept h_this_text h_this_row h_this_read h_this_many h_this_first h_this_lengths h_this_page i_this j_this, (h_this_dayAt, .inl (cI, 8, .inl f_this_dayAt)), (h_this_secondAt, .inl (cI, 8, .inl f_this_secondAt)), (h_this_spans, .inl (cI, 24, .inl f_this_spans)), (h_this_row, .inl (cJ, 16, .inr (.inl f_this_row)))] H → va_D A [cl_X10 h_this h_this_dayAt h_this_secondAt h_this_spans h_this_kept h_this_text h_this_row h_this_read h_this_many h_this_first h_this_lengths h_this_page i_this j_this, (h_this_dayAt, .inl (cI, 8, .inl f_this_dayAt)), (h_this_secondAt, .inl (cI, 8, .inl f_this_secondAt)), (h_this_spans, .inl (cI, 24, .inl f_this_spans)), (h_this_row, .inl (cJ, 16, .inr (.inl f_this_row)))] → va_S A s.heap H locs → W p l e (kR 7 174) s m args below meth c H locs 0 0 Q (F0 m 39 ls []) := by
    intro n_39
    induction n_39 with
    | zero =>
      intro v1 v2 v3 v4 v5 i_this f_this_row ls H locs h hl hP hD hS
      rw [fX10_next_l39_0] at h; cases h
    | succ n_39 ih_39 =>
      intro v1 v2 v3 v4 v5 i_this f_this_row ls H locs h hl hP hD hS
      rw [fX10_next_l39_s] at h
      refine lv_iload hx hb dX10_next_39 (lv_at hl 5 rfl) ?_
      refine lv_sipush (v := (10000 : Int32)) hx hb dX10_next_41 (by decide) ?_
      refine lv_icmp_gt (tgt := 108) hx hb dX10_next_44 (by decide) (fun c1 => ?_) (fun c1 => ?_)
      · have h := ite_t c1 h
        refine lv_bipush (v := (-2 : Int32)) hx hb dX10_next_108 (by decide) ?_
        obtain ⟨rfl, rfl, rfl⟩ := pj3 h
        exact hEnd _ _ _ _ hP hS dX10_next_110 rfl
      have h := ite_f c1 h
      refine lv_aload_n hx hb dX10_next_47 rfl (lv_at hl 0 rfl) ?_
      refine lv_iload_n hx hb dX10_next_48 rfl (lv_at hl 1 rfl) ?_
      refine lv_iload_n hx hb dX10_next_49 rfl (lv_at hl 2 rfl) ?_
      refine lv_iload_n hx hb dX10_next_50 rfl (lv_at hl 3 rfl) ?_
      refine lv_iload hx hb dX10_next_51 (lv_at hl 5 rfl) ?_
      obtain ⟨r2, i_this_3, hc4, h⟩ := bd2_at h
      refine kjI (kV (own := "DateSpansModel") (C := "DateSpansModel") (b := h_this) (As := [.int v1, .int v2, .int v3, .int v5]) (rest := []) ⟨hx, hb, hml, hown, hts⟩ (kX10_leads l dC dI cI cJ cB h_this h_this_dayAt h_this_secondAt h_this_spans h_this_kept h_this_text h_this_row h_this_read h_this_many h_this_first h_this_lengths h_this_page N v1 v2 v3 v5 i_this j_this f_this_dayAt f_this_secondAt f_this_spans r2 i_this_3 hc4 _) (kgV (kq q_1419 rfl) (kq q_1421 rfl) (kq q_48 rfl) (kq q_66 rfl) (kq q_1422 rfl)) yd_X10_leads ⟨Nat.le_of_ble_eq_true rfl, Nat.le_of_ble_eq_true rfl⟩ hN hK hP hD [0, 1, 2, 3] rfl rfl (ci := 9) rfl rfl rfl rfl rfl hl.1 rfl (lv_room (Nat.le_of_ble_eq_true rfl)) dX10_next_53) hP hD hS hA [0, 1, 2, 3] rfl rfl (fun H locs hP hD hS => ?_)
      have hP : va_P (dC, dI) vwCl [cl_X10 h_this h_this_dayAt h_this_secondAt h_this_spans h_this_kept h_this_text h_this_row h_this_read h_this_many h_this_first h_this_lengths h_this_page i_this_3 j_this, (h_this_dayAt, .inl (cI, 8, .inl f_this_dayAt)), (h_this_secondAt, .inl (cI, 8, .inl f_this_secondAt)), (h_this_spans, .inl (cI, 24, .inl f_this_spans)), (h_this_row, .inl (cJ, 16, .inr (.inl f_this_row)))] H := hP
      have hD : va_D A [cl_X10 h_this h_this_dayAt h_this_secondAt h_this_spans h_this_kept h_this_text h_this_row h_this_read h_this_many h_this_first h_this_lengths h_this_page i_this_3 j_this, (h_this_dayAt, .inl (cI, 8, .inl f_this_dayAt)), (h_this_secondAt, .inl (cI, 8, .inl f_this_secondAt)), (h_this_spans, .inl (cI, 24, .inl f_this_spans)), (h_this_row, .inl (cJ, 16, .inr (.inl f_this_row)))] := hD
      refine lv_if_eq (tgt := 102) hx hb dX10_next_56 (by decide) (fun c5 => ?_) (fun c5 => ?_)
      · have h := ite_t c5 h
        obtain ⟨z6, ez6⟩ : ∃ y : Int32, y = (v5 + (1 : Int32)) := ⟨_, rfl⟩
        have h := nm_at ez6 h
        refine lv_iinc (v := z6) (lv' := [(5, .int z6), (0, .ref h_this), (1, .int v1), (2, .int v2), (3, .int v3), (4, .int v4)]) hx hb dX10_next_102 hl (k := 5) rfl (by rw [ez6]; rfl) (by decide) rfl (fun ls hl => ?_)
        refine lv_goto (tgt := 39) hx hb dX10_next_105 (by decide) ?_
        exact ih_39 _ _ _ _ _ _ _ _ _ _ h (lv_sub hl [1, 2, 3, 4, 5, 0] rfl) hP hD hS
      have h := ite_f c5 h
      refine lv_aload_n hx hb dX10_next_59 rfl (lv_at hl 0 rfl) ?_
      obtain ⟨r7, hc8, h⟩ := bd1_at h
      refine kjL (kV (own := "DateSpansModel") (C := "DateSpansModel") (b := h_this) (As := []) (rest := []) ⟨hx, hb, hml, hown, hts⟩ (kX10_instant l dC dI cI cJ cB h_this h_this_dayAt h_this_secondAt h_this_spans h_this_kept h_this_text h_this_row h_this_read h_this_many h_this_first h_this_lengths h_this_page N i_this_3 j_this r7 hc8 _) (kgV (kq q_1352 rfl) (kq q_1354 rfl) (kq q_42 rfl) (kq q_66 rfl) (kq q_1355 rfl)) yd_X10_instant ⟨Nat.le_of_ble_eq_true rfl, Nat.le_of_ble_eq_true rfl⟩ hN hK hP hD [0] rfl rfl (ci := 9) rfl rfl rfl rfl rfl hl.1 rfl (lv_room (Nat.le_of_ble_eq_true rfl)) dX10_next_60) hP hD hS hA [0] rfl rfl (fun H locs hP hD hS => ?_)
      have hP : va_P (dC, dI) vwCl [cl_X10 h_this h_this_dayAt h_this_secondAt h_this_spans h_this_kept h_this_text h_this_row h_this_read h_this_many h_this_first h_this_lengths h_this_page i_this_3 j_this, (h_this_dayAt, .inl (cI, 8, .inl f_this_dayAt)), (h_this_secondAt, .inl (cI, 8, .inl f_this_secondAt)), (h_this_spans, .inl (cI, 24, .inl f_this_spans)), (h_this_row, .inl (cJ, 16, .inr (.inl f_this_row)))] H := hP
      have hD : va_D A [cl_X10 h_this h_this_dayAt h_this_secondAt h_this_spans h_this_kept h_this_text h_this_row h_this_read h_this_many h_this_first h_this_lengths h_this_page i_this_3 j_this, (h_this_dayAt, .inl (cI, 8, .inl f_this_dayAt)), (h_this_secondAt, .inl (cI, 8, .inl f_this_secondAt)), (h_this_spans, .inl (cI, 24, .inl f_this_spans)), (h_this_row, .inl (cJ, 16, .inr (.inl f_this_row)))] := hD
      refine lv_aload_n hx hb dX10_next_63 rfl (lv_at hl 0 rfl) ?_
      refine lv_iload hx hb dX10_next_64 (lv_at hl 4 rfl) ?_
      obtain ⟨r9, hc10, h⟩ := bd1_at h
      refine kjL (kV (own := "DateSpansModel") (C := "DateSpansModel") (b := h_this) (As := [.int v4]) (rest := [.long r7]) ⟨hx, hb, hml, hown, hts⟩ (kX10_instantOf l dC dI cI cJ cB h_this h_this_dayAt h_this_secondAt h_this_spans h_this_kept h_this_text h_this_row h_this_read h_this_many h_this_first h_this_lengths h_this_page N v4 i_this_3 j_this f_this_dayAt f_this_secondAt r9 hc10 _) (kgV (kq q_1340 rfl) (kq q_1342 rfl) (kq q_39 rfl) (kq q_66 rfl) (kq q_1343 rfl)) yd_X10_instantOf ⟨Nat.le_of_ble_eq_true rfl, Nat.le_of_ble_eq_true rfl⟩ hN hK hP hD [0, 1, 2] rfl rfl (ci := 9) rfl rfl rfl rfl rfl hl.1 rfl (lv_room (Nat.le_of_ble_eq_true rfl)) dX10_next_66) hP hD hS hA [0, 1, 2] rfl rfl (fun H locs hP hD hS => ?_)
      have hP : va_P (dC, dI) vwCl [cl_X10 h_this h_this_dayAt h_this_secondAt h_this_spans h_this_kept h_this_text h_this_row h_this_read h_this_many h_this_first h_this_lengths h_this_page i_this_3 j_this, (h_this_dayAt, .inl (cI, 8, .inl f_this_dayAt)), (h_this_secondAt, .inl (cI, 8, .inl f_this_secondAt)), (h_this_spans, .inl (cI, 24, .inl f_this_spans)), (h_this_row, .inl (cJ, 16, .inr (.inl f_this_row)))] H := hP
      have hD : va_D A [cl_X10 h_this h_this_dayAt h_this_secondAt h_this_spans h_this_kept h_this_text h_this_row h_this_read h_this_many h_this_first h_this_lengths h_this_page i_this_3 j_this, (h_this_dayAt, .inl (cI, 8, .inl f_this_dayAt)), (h_this_secondAt, .inl (cI, 8, .inl f_this_secondAt)), (h_this_spans, .inl (cI, 24, .inl f_this_spans)), (h_this_row, .inl (cJ, 16, .inr (.inl f_this_row)))] := hD
      refine W.lcmp hx hb dX10_next_69 ?_
      refine lv_if_ge (tgt := 76) hx hb dX10_next_70 (by decide) (fun c11 => ?_) (fun c11 => ?_)
      · have h := ite_t c11 h
        refine lv_aload_n hx hb dX10_next_76 rfl (lv_at hl 0 rfl) ?_
        refine lv_iconst (v := (0 : Int32)) hx hb dX10_next_77 (by decide) ?_
        refine va_put (D := (dC, dI)) (ci := 9) (v := .int (0 : Int32)) (ty := .int) (C := RX10) (T := TX10) (N := 29) hx hb hts inX10 tyX10 tyX10_ok nmX10 hown hK hP hD hS 0 rfl rfl 8 (by decide) (hts _ (kq q_994 rfl)) (fun _ h9 => h9) rfl (by decide +kernel) rfl rfl (Nat.le_of_ble_eq_true rfl) dX10_next_78 (fun H locs hP hD hS => ?_)
        have hP : va_P (dC, dI) vwCl [(h_this, .inr (9, [.ref h_this_dayAt, .ref h_this_secondAt, .ref h_this_spans, .ref h_this_kept, .int (i_this_3 4), .ref h_this_text, .int (i_this_3 6), .ref h_this_row, .int (0 : Int32), .int (i_this_3 9), .int (i_this_3 10), .int (i_this_3 11), .int (i_this_3 12), .int (i_this_3 13), .int (i_this_3 14), .int (i_this_3 15), .int (i_this_3 16), .int (i_this_3 17), .int (i_this_3 18), .ref h_this_read, .long (j_this 20), .ref h_this_many, .ref h_this_first, .ref h_this_lengths, .int (i_this_3 24), .long (j_this 25), .long (j_this 26), .ref h_this_page, .int (i_this_3 28)])), (h_this_dayAt, .inl (cI, 8, .inl f_this_dayAt)), (h_this_secondAt, .inl (cI, 8, .inl f_this_secondAt)), (h_this_spans, .inl (cI, 24, .inl f_this_spans)), (h_this_row, .inl (cJ, 16, .inr (.inl f_this_row)))] H := hP
        have hD : va_D A [(h_this, .inr (9, [.ref h_this_dayAt, .ref h_this_secondAt, .ref h_this_spans, .ref h_this_kept, .int (i_this_3 4), .ref h_this_text, .int (i_this_3 6), .ref h_this_row, .int (0 : Int32), .int (i_this_3 9), .int (i_this_3 10), .int (i_this_3 11), .int (i_this_3 12), .int (i_this_3 13), .int (i_this_3 14), .int (i_this_3 15), .int (i_this_3 16), .int (i_this_3 17), .int (i_this_3 18), .ref h_this_read, .long (j_this 20), .ref h_this_many, .ref h_this_first, .ref h_this_lengths, .int (i_this_3 24), .long (j_this 25), .long (j_this 26), .ref h_this_page, .int (i_this_3 28)])), (h_this_dayAt, .inl (cI, 8, .inl f_this_dayAt)), (h_this_secondAt, .inl (cI, 8, .inl f_this_secondAt)), (h_this_spans, .inl (cI, 24, .inl f_this_spans)), (h_this_row, .inl (cJ, 16, .inr (.inl f_this_row)))] := hD
        refine lv_aload_n hx hb dX10_next_81 rfl (lv_at hl 0 rfl) ?_
        refine lv_aload_n hx hb dX10_next_82 rfl (lv_at hl 0 rfl) ?_
        refine va_get (D := (dC, dI)) (ci := 9) (v := .int (i_this_3 13)) (C := RX10) (T := TX10) (N := 29) hx hb hts inX10 hown hK hP 0 rfl rfl 13 (by decide) (hts _ (kq q_999 rfl)) (fun _ h9 => h9) rfl dX10_next_83 ?_
        refine lv_i2l hx hb dX10_next_86 rfl ?_
        have hP : va_P (dC, dI) vwCl [cl_X10 h_this h_this_dayAt h_this_secondAt h_this_spans h_this_kept h_this_text h_this_row h_this_read h_this_many h_this_first h_this_lengths h_this_page (upd i_this_3 8 (0 : Int32)) j_this, (h_this_dayAt, .inl (cI, 8, .inl f_this_dayAt)), (h_this_secondAt, .inl (cI, 8, .inl f_this_secondAt)), (h_this_spans, .inl (cI, 24, .inl f_this_spans)), (h_this_row, .inl (cJ, 16, .inr (.inl f_this_row)))] H := hP
        have hD : va_D A [cl_X10 h_this h_this_dayAt h_this_secondAt h_this_spans h_this_kept h_this_text h_this_row h_this_read h_this_many h_this_first h_this_lengths h_this_page (upd i_this_3 8 (0 : Int32)) j_this, (h_this_dayAt, .inl (cI, 8, .inl f_this_dayAt)), (h_this_secondAt, .inl (cI, 8, .inl f_this_secondAt)), (h_this_spans, .inl (cI, 24, .inl f_this_spans)), (h_this_row, .inl (cJ, 16, .inr (.inl f_this_row)))] := hD
        obtain ⟨i_this_12, f_this_row_13, hc14, h⟩ := bd2_at h
        refine kjV (kV (own := "DateSpansModel") (C := "DateSpansModel") (b := h_this) (As := [.long ((i_this_3 13).toInt64)]) (rest := []) ⟨hx, hb, hml, hown, hts⟩ (kX10_tell l dC dI cI cJ cB h_this h_this_dayAt h_this_secondAt h_this_spans h_this_kept h_this_text h_this_row h_this_read h_this_many h_this_first h_this_lengths h_this_page N ((i_this_3 13).toInt64) (upd i_this_3 8 (0 : Int32)) j_this f_this_row i_this_12 f_this_row_13 hc14 _) (kgV (kq q_1221 rfl) (kq q_1223 rfl) (kq q_29 rfl) (kq q_66 rfl) (kq q_1224 rfl)) yd_X10_tell ⟨Nat.le_of_ble_eq_true rfl, Nat.le_of_ble_eq_true rfl⟩ hN hK hP hD [0, 4] rfl rfl (ci := 9) rfl rfl rfl rfl rfl hl.1 rfl (lv_room (Nat.le_of_ble_eq_true rfl)) dX10_next_87) hP hD hS hA [0, 4] rfl rfl (fun H locs hP hD hS => ?_)
        have hP : va_P (dC, dI) vwCl [cl_X10 h_this h_this_dayAt h_this_secondAt h_this_spans h_this_kept h_this_text h_this_row h_this_read h_this_many h_this_first h_this_lengths h_this_page i_this_12 j_this, (h_this_dayAt, .inl (cI, 8, .inl f_this_dayAt)), (h_this_secondAt, .inl (cI, 8, .inl f_this_secondAt)), (h_this_spans, .inl (cI, 24, .inl f_this_spans)), (h_this_row, .inl (cJ, 16, .inr (.inl f_this_row_13)))] H := hP
        have hD : va_D A [cl_X10 h_this h_this_dayAt h_this_secondAt h_this_spans h_this_kept h_this_text h_this_row h_this_read h_this_many h_this_first h_this_lengths h_this_page i_this_12 j_this, (h_this_dayAt, .inl (cI, 8, .inl f_this_dayAt)), (h_this_secondAt, .inl (cI, 8, .inl f_this_secondAt)), (h_this_spans, .inl (cI, 24, .inl f_this_spans)), (h_this_row, .inl (cJ, 16, .inr (.inl f_this_row_13)))] := hD
        refine lv_aload_n hx hb dX10_next_90 rfl (lv_at hl 0 rfl) ?_
        refine lv_aload_n hx hb dX10_next_91 rfl (lv_at hl 0 rfl) ?_
        refine va_get (D := (dC, dI)) (ci := 9) (v := .int (i_this_12 14)) (C := RX10) (T := TX10) (N := 29) hx hb hts inX10 hown hK hP 0 rfl rfl 14 (by decide) (hts _ (kq q_1000 rfl)) (fun _ h9 => h9) rfl dX10_next_92 ?_
        refine lv_i2l hx hb dX10_next_95 rfl ?_
        obtain ⟨i_this_15, f_this_row_16, hc17, h⟩ := bd2_at h
        refine kjV (kV (own := "DateSpansModel") (C := "DateSpansModel") (b := h_this) (As := [.long ((i_this_12 14).toInt64)]) (rest := []) ⟨hx, hb, hml, hown, hts⟩ (kX10_tell l dC dI cI cJ cB h_this h_this_dayAt h_this_secondAt h_this_spans h_this_kept h_this_text h_this_row h_this_read h_this_many h_this_first h_this_lengths h_this_page N ((i_this_12 14).toInt64) i_this_12 j_this f_this_row_13 i_this_15 f_this_row_16 hc17 _) (kgV (kq q_1221 rfl) (kq q_1223 rfl) (kq q_29 rfl) (kq q_66 rfl) (kq q_1224 rfl)) yd_X10_tell ⟨Nat.le_of_ble_eq_true rfl, Nat.le_of_ble_eq_true rfl⟩ hN hK hP hD [0, 4] rfl rfl (ci := 9) rfl rfl rfl rfl rfl hl.1 rfl (lv_room (Nat.le_of_ble_eq_true rfl)) dX10_next_96) hP hD hS hA [0, 4] rfl rfl (fun H locs hP hD hS => ?_)
        have hP : va_P (dC, dI) vwCl [cl_X10 h_this h_this_dayAt h_this_secondAt h_this_spans h_this_kept h_this_text h_this_row h_this_read h_this_many h_this_first h_this_lengths h_this_page i_this_15 j_this, (h_this_dayAt, .inl (cI, 8, .inl f_this_dayAt)), (h_this_secondAt, .inl (cI, 8, .inl f_this_secondAt)), (h_this_spans, .inl (cI, 24, .inl f_this_spans)), (h_this_row, .inl (cJ, 16, .inr (.inl f_this_row_16)))] H := hP
        have hD : va_D A [cl_X10 h_this h_this_dayAt h_this_secondAt h_this_spans h_this_kept h_this_text h_this_row h_this_read h_this_many h_this_first h_this_lengths h_this_page i_this_15 j_this, (h_this_dayAt, .inl (cI, 8, .inl f_this_dayAt)), (h_this_secondAt, .inl (cI, 8, .inl f_this_secondAt)), (h_this_spans, .inl (cI, 24, .inl f_this_spans)), (h_this_row, .inl (cJ, 16, .inr (.inl f_this_row_16)))] := hD
        refine lv_iload hx hb dX10_next_99 (lv_at hl 5 rfl) ?_
        obtain ⟨rfl, rfl, rfl⟩ := pj3 h
        exact hEnd _ _ _ _ hP hS dX10_next_101 rfl
      have h := ite_f c11 h
      refine lv_goto (tgt := 102) hx hb dX10_next_73 (by decide) ?_
      obtain ⟨z18, ez18⟩ : ∃ y : Int32, y = (v5 + (1 : Int32)) := ⟨_, rfl⟩
      have h := nm_at ez18 h
      refine lv_iinc (v := z18) (lv' := [(5, .int z18), (0, .ref h_this), (1, .int v1), (2, .int v2), (3, .int v3), (4, .int v4)]) hx hb dX10_next_102 hl (k := 5) rfl (by rw [ez18]; rfl) (by decide) rfl (fun ls hl => ?_)
      refine lv_goto (tgt := 39) hx hb dX10_next_105 (by decide) ?_
      exact ih_39 _ _ _ _ _ _ _ _ _ _ h (lv_sub hl [1, 2, 3, 4, 5, 0] rfl) hP hD hS
  have h := hf
  unfold fX10_next at h
  refine lv_aload_n hx hb dX10_next_0 rfl (lv_at hl 0 rfl) ?_
  refine lv_iconst (v := (0 : Int32)) hx hb dX10_next_1 (by decide) ?_
  refine va_put (D := (dC, dI)) (ci := 9) (v := .int (0 : Int32)) (ty := .int) (C := RX10) (T := TX10) (N := 29) hx hb hts inX10 tyX10 tyX10_ok nmX10 hown hK hP hD hS 0 rfl rfl 9 (by decide) (hts _ (kq q_995 rfl)) (fun _ h9 => h9) rfl (by decide +kernel) rfl rfl (Nat.le_of_ble_eq_true rfl) dX10_next_2 (fun H locs hP hD hS => ?_)
  have hP : va_P (dC, dI) vwCl [(h_this, .inr (9, [.ref h_this_dayAt, .ref h_this_secondAt, .ref h_this_spans, .ref h_this_kept, .int (i_this 4), .ref h_this_text, .int (i_this 6), .ref h_this_row, .int (i_this 8), .int (0 : Int32), .int (i_this 10), .int (i_this 11), .int (i_this 12), .int (i_this 13), .int (i_this 14), .int (i_this 15), .int (i_this 16), .int (i_this 17), .int (i_this 18), .ref h_this_read, .long (j_this 20), .ref h_this_many, .ref h_this_first, .ref h_this_lengths, .int (i_this 24), .long (j_this 25), .long (j_this 26), .ref h_this_page, .int (i_this 28)])), (h_this_dayAt, .inl (cI, 8, .inl f_this_dayAt)), (h_this_secondAt, .inl (cI, 8, .inl f_this_secondAt)), (h_this_spans, .inl (cI, 24, .inl f_this_spans)), (h_this_row, .inl (cJ, 16, .inr (.inl f_this_row)))] H := hP
  have hD : va_D A [(h_this, .inr (9, [.ref h_this_dayAt, .ref h_this_secondAt, .ref h_this_spans, .ref h_this_kept, .int (i_this 4), .ref h_this_text, .int (i_this 6), .ref h_this_row, .int (i_this 8), .int (0 : Int32), .int (i_this 10), .int (i_this 11), .int (i_this 12), .int (i_this 13), .int (i_this 14), .int (i_this 15), .int (i_this 16), .int (i_this 17), .int (i_this 18), .ref h_this_read, .long (j_this 20), .ref h_this_many, .ref h_this_first, .ref h_this_lengths, .int (i_this 24), .long (j_this 25), .long (j_this 26), .ref h_this_page, .int (i_this 28)])), (h_this_dayAt, .inl (cI, 8, .inl f_this_dayAt)), (h_this_secondAt, .inl (cI, 8, .inl f_this_secondAt)), (h_this_spans, .inl (cI, 24, .inl f_this_spans)), (h_this_row, .inl (cJ, 16, .inr (.inl f_this_row)))] := hD
  refine lv_iload_n hx hb dX10_next_5 rfl (lv_at hl 1 rfl) ?_
  have hP : va_P (dC, dI) vwCl [cl_X10 h_this h_this_dayAt h_this_secondAt h_this_spans h_this_kept h_this_text h_this_row h_this_read h_this_many h_this_first h_this_lengths h_this_page (upd i_this 9 (0 : Int32)) j_this, (h_this_dayAt, .inl (cI, 8, .inl f_this_dayAt)), (h_this_secondAt, .inl (cI, 8, .inl f_this_secondAt)), (h_this_spans, .inl (cI, 24, .inl f_this_spans)), (h_this_row, .inl (cJ, 16, .inr (.inl f_this_row)))] H := hP
  have hD : va_D A [cl_X10 h_this h_this_dayAt h_this_secondAt h_this_spans h_this_kept h_this_text h_this_row h_this_read h_this_many h_this_first h_this_lengths h_this_page (upd i_this 9 (0 : Int32)) j_this, (h_this_dayAt, .inl (cI, 8, .inl f_this_dayAt)), (h_this_secondAt, .inl (cI, 8, .inl f_this_secondAt)), (h_this_spans, .inl (cI, 24, .inl f_this_spans)), (h_this_row, .inl (cJ, 16, .inr (.inl f_this_row)))] := hD
  obtain ⟨r19, hc20, h⟩ := bd1_at h
  refine kjSI (kS0 (own := "DateSpansModel") (As := [.int p1]) (rest := []) ⟨hx, hb, hml, hown, hts⟩ (kX10_isSlot l N p1 r19 hc20) (kgS (kq q_1123 rfl) (kq q_1124 rfl) (kq q_66 rfl) (kq q_1125 rfl)) yd_X10_isSlot ⟨Nat.le_of_ble_eq_true rfl, Nat.le_of_ble_eq_true rfl⟩ rfl rfl hl.1 rfl (lv_room (Nat.le_of_ble_eq_true rfl)) dX10_next_6) ?_
  refine lv_if_eq (tgt := 34) hx hb dX10_next_9 (by decide) (fun c21 => ?_) (fun c21 => ?_)
  · have h := ite_t c21 h
    refine lv_iconst (v := (-1 : Int32)) hx hb dX10_next_34 (by decide) ?_
    obtain ⟨rfl, rfl, rfl⟩ := pj3 h
    exact hEnd _ _ _ _ hP hS dX10_next_35 rfl
  have h := ite_f c21 h
  refine lv_iload_n hx hb dX10_next_12 rfl (lv_at hl 2 rfl) ?_
  obtain ⟨r22, hc23, h⟩ := bd1_at h
  refine kjSI (kS0 (own := "DateSpansModel") (As := [.int p2]) (rest := []) ⟨hx, hb, hml, hown, hts⟩ (kX10_isSlot l N p2 r22 hc23) (kgS (kq q_1123 rfl) (kq q_1124 rfl) (kq q_66 rfl) (kq q_1125 rfl)) yd_X10_isSlot ⟨Nat.le_of_ble_eq_true rfl, Nat.le_of_ble_eq_true rfl⟩ rfl rfl hl.1 rfl (lv_room (Nat.le_of_ble_eq_true rfl)) dX10_next_13) ?_
  refine lv_if_eq (tgt := 34) hx hb dX10_next_16 (by decide) (fun c24 => ?_) (fun c24 => ?_)
  · have h := ite_t c24 h
    refine lv_iconst (v := (-1 : Int32)) hx hb dX10_next_34 (by decide) ?_
    obtain ⟨rfl, rfl, rfl⟩ := pj3 h
    exact hEnd _ _ _ _ hP hS dX10_next_35 rfl
  have h := ite_f c24 h
  refine lv_iload_n hx hb dX10_next_19 rfl (lv_at hl 3 rfl) ?_
  obtain ⟨r25, hc26, h⟩ := bd1_at h
  refine kjSI (kS0 (own := "DateSpansModel") (As := [.int p3]) (rest := []) ⟨hx, hb, hml, hown, hts⟩ (kX10_isLaw l N p3 r25 hc26) (kgS (kq q_1275 rfl) (kq q_1276 rfl) (kq q_66 rfl) (kq q_1277 rfl)) yd_X10_isLaw ⟨Nat.le_of_ble_eq_true rfl, Nat.le_of_ble_eq_true rfl⟩ rfl rfl hl.1 rfl (lv_room (Nat.le_of_ble_eq_true rfl)) dX10_next_20) ?_
  refine lv_if_eq (tgt := 34) hx hb dX10_next_23 (by decide) (fun c27 => ?_) (fun c27 => ?_)
  · have h := ite_t c27 h
    refine lv_iconst (v := (-1 : Int32)) hx hb dX10_next_34 (by decide) ?_
    obtain ⟨rfl, rfl, rfl⟩ := pj3 h
    exact hEnd _ _ _ _ hP hS dX10_next_35 rfl
  have h := ite_f c27 h
  refine lv_iload hx hb dX10_next_26 (lv_at hl 4 rfl) ?_
  obtain ⟨r28, hc29, h⟩ := bd1_at h
  refine kjSI (kS0 (own := "DateSpansModel") (As := [.int p4]) (rest := []) ⟨hx, hb, hml, hown, hts⟩ (kX10_isSlot l N p4 r28 hc29) (kgS (kq q_1123 rfl) (kq q_1124 rfl) (kq q_66 rfl) (kq q_1125 rfl)) yd_X10_isSlot ⟨Nat.le_of_ble_eq_true rfl, Nat.le_of_ble_eq_true rfl⟩ rfl rfl hl.1 rfl (lv_room (Nat.le_of_ble_eq_true rfl)) dX10_next_28) ?_
  refine lv_if_ne (tgt := 36) hx hb dX10_next_31 (by decide) (fun c30 => ?_) (fun c30 => ?_)
  · have h := ite_f c30 h
    refine lv_iconst (v := (0 : Int32)) hx hb dX10_next_36 (by decide) ?_
    refine lv_istore (lv' := [(5, .int (0 : Int32)), (0, .ref h_this), (1, .int p1), (2, .int p2), (3, .int p3), (4, .int p4)]) hx hb dX10_next_37 hl (by decide) rfl (fun ls hl => ?_)
    exact LP_39 N _ _ _ _ _ _ _ _ _ _ h (lv_sub hl [1, 2, 3, 4, 5, 0] rfl) hP hD hS
  have h := ite_t c30 h
  refine lv_iconst (v := (-1 : Int32)) hx hb dX10_next_34 (by decide) ?_
  obtain ⟨rfl, rfl, rfl⟩ := pj3 h
  exact hEnd _ _ _ _ hP hS dX10_next_35 rfl
noncomputable def fX10_falls_l63 (N : Nat) (j_this : Nat → Int64) (f_this_dayAt : Nat → Int32) (f_this_secondAt : Nat → Int32) (f_this_spans : Nat → Int32) (n : Nat) : Int32 → Int32 → Int32 → Int32 → Int32 → Int32 → Int32 → Int32 → (Nat → Int32) → (Nat → Int64) → Option (Int32 × (Nat → Int32) × (Nat → Int64)) := Nat.rec (motive := fun _ => Int32 → Int32 → Int32 → Int32 → Int32 → Int32 → Int32 → Int32 → (Nat → Int32) → (Nat → Int64) → Option (Int32 × (Nat → Int32) × (Nat → Int64))) (fun _ _ _ _ _ _ _ _ _ _ => none) (fun _ K_63 v1 v2 v3 v4 v5 v6 v7 v8 i_this f_this_row => (if v4 < v8 then (bd2 (fX10_tell N v7.toInt64 (upd i_this 8 (0 : Int32)) j_this f_this_row) fun i_this_2 f_this_row_3 => (some (v6, i_this_2, f_this_row_3))) else (bd2 (fX10_leads N v1 v2 v3 v8 i_this j_this f_this_dayAt f_this_secondAt f_this_spans) fun r5 i_this_6 => (if r5 = (0 : Int32) then (nm (v8 + (1 : Int32)) fun z9 => (K_63 v1 v2 v3 v4 v5 v6 v7 z9 i_this_6 f_this_row)) else (if ((i_this_6 13) - (i_this_6 13) / (7 : Int32) * (7 : Int32)) = v5 then (if v6 = (0 : Int32) then (nm (v6 + (1 : Int32)) fun z14 => (nm (v8 + (1 : Int32)) fun z15 => (K_63 v1 v2 v3 v4 v5 z14 v8 z15 i_this_6 f_this_row))) else (nm (v6 + (1 : Int32)) fun z12 => (nm (v8 + (1 : Int32)) fun z13 => (K_63 v1 v2 v3 v4 v5 z12 v7 z13 i_this_6 f_this_row)))) else (nm (v8 + (1 : Int32)) fun z16 => (K_63 v1 v2 v3 v4 v5 v6 v7 z16 i_this_6 f_this_row))))))) n
theorem fX10_falls_l63_s (N : Nat) (j_this : Nat → Int64) (f_this_dayAt : Nat → Int32) (f_this_secondAt : Nat → Int32) (f_this_spans : Nat → Int32) (n : Nat) (v1 : Int32) (v2 : Int32) (v3 : Int32) (v4 : Int32) (v5 : Int32) (v6 : Int32) (v7 : Int32) (v8 : Int32) (i_this : Nat → Int32) (f_this_row : Nat → Int64) : fX10_falls_l63 N j_this f_this_dayAt f_this_secondAt f_this_spans (n + 1) v1 v2 v3 v4 v5 v6 v7 v8 i_this f_this_row = (if v4 < v8 then (bd2 (fX10_tell N v7.toInt64 (upd i_this 8 (0 : Int32)) j_this f_this_row) fun i_this_2 f_this_row_3 => (some (v6, i_this_2, f_this_row_3))) else (bd2 (fX10_leads N v1 v2 v3 v8 i_this j_this f_this_dayAt f_this_secondAt f_this_spans) fun r5 i_this_6 => (if r5 = (0 : Int32) then (nm (v8 + (1 : Int32)) fun z9 => ((fX10_falls_l63 N j_this f_this_dayAt f_this_secondAt f_this_spans n) v1 v2 v3 v4 v5 v6 v7 z9 i_this_6 f_this_row)) else (if ((i_this_6 13) - (i_this_6 13) / (7 : Int32) * (7 : Int32)) = v5 then (if v6 = (0 : Int32) then (nm (v6 + (1 : Int32)) fun z14 => (nm (v8 + (1 : Int32)) fun z15 => ((fX10_falls_l63 N j_this f_this_dayAt f_this_secondAt f_this_spans n) v1 v2 v3 v4 v5 z14 v8 z15 i_this_6 f_this_row))) else (nm (v6 + (1 : Int32)) fun z12 => (nm (v8 + (1 : Int32)) fun z13 => ((fX10_falls_l63 N j_this f_this_dayAt f_this_secondAt f_this_spans n) v1 v2 v3 v4 v5 z12 v7 z13 i_this_6 f_this_row)))) else (nm (v8 + (1 : Int32)) fun z16 => ((fX10_falls_l63 N j_this f_this_dayAt f_this_secondAt f_this_spans n) v1 v2 v3 v4 v5 v6 v7 z16 i_this_6 f_this_row)))))) := rfl
theorem fX10_falls_l63_0 (N : Nat) (j_this : Nat → Int64) (f_this_dayAt : Nat → Int32) (f_this_secondAt : Nat → Int32) (f_this_spans : Nat → Int32) (v1 : Int32) (v2 : Int32) (v3 : Int32) (v4 : Int32) (v5 : Int32) (v6 : Int32) (v7 : Int32) (v8 : Int32) (i_this : Nat → Int32) (f_this_row : Nat → Int64) : fX10_falls_l63 N j_this f_this_dayAt f_this_secondAt f_this_spans 0 v1 v2 v3 v4 v5 v6 v7 v8 i_this f_this_row = none := rfl
noncomputable def fX10_falls (N : Nat) (p1 : Int32) (p2 : Int32) (p3 : Int32) (p4 : Int32) (p5 : Int32) (i_this : Nat → Int32) (j_this : Nat → Int64) (f_this_dayAt : Nat → Int32) (f_this_secondAt : Nat → Int32) (f_this_spans : Nat → Int32) (f_this_row : Nat → Int64) : Option (Int32 × (Nat → Int32) × (Nat → Int64)) := (bd1 (fX10_isSlot N p1) fun r17 => (if r17 = (0 : Int32) then (some ((-1 : Int32), (upd i_this 9 (0 : Int32)), f_this_row)) else (bd1 (fX10_isSlot N p2) fun r20 => (if r20 = (0 : Int32) then (some ((-1 : Int32), (upd i_this 9 (0 : Int32)), f_this_row)) else (bd1 (fX10_isLaw N p3) fun r23 => (if r23 = (0 : Int32) then (some ((-1 : Int32), (upd i_this 9 (0 : Int32)), f_this_row)) else (bd1 (fX10_in N p4.toInt64 (0 : Int64) (1000 : Int64)) fun r26 => (if r26 = (0 : Int32) then (some ((-1 : Int32), (upd i_this 9 (0 : Int32)), f_this_row)) else (bd1 (fX10_in N p5.toInt64 (0 : Int64) (6 : Int64)) fun r29 => (if r29 = (0 : Int32) then (some ((-1 : Int32), (upd i_this 9 (0 : Int32)), f_this_row)) else (fX10_falls_l63 N j_this f_this_dayAt f_this_secondAt f_this_spans N p1 p2 p3 p4 p5 (0 : Int32) (-1 : Int32) (0 : Int32) (upd i_this 9 (0 : Int32)) f_this_row)))))))))))
set_option maxHeartbeats 4000000 in
set_option maxRecDepth 100000 in
theorem kX10_falls (l : Launch) (dC : Nat → ClassId) (dI : Nat → Nat → Nat) (cI cJ cB : ClassId) (h_this h_this_dayAt h_this_secondAt h_this_spans h_this_kept h_this_text h_this_row h_this_read h_this_many h_this_first h_this_lengths h_this_page : Nat) (N : Nat) (p1 : Int32) (p2 : Int32) (p3 : Int32) (p4 : Int32) (p5 : Int32) (i_this : Nat → Int32) (j_this : Nat → Int64) (f_this_dayAt : Nat → Int32) (f_this_secondAt : Nat → Int32) (f_this_spans : Nat → Int32) (f_this_row : Nat → Int64) (r : Int32) (o_i_this : Nat → Int32) (o_f_this_row : Nat → Int64) (hf : fX10_falls N p1 p2 p3 p4 p5 i_this j_this f_this_dayAt f_this_secondAt f_this_spans f_this_row = some (r, o_i_this, o_f_this_row)) : MI l yX10_falls (kws yX10_falls cX10_falls 9 (some .int)) (kR 7 174) (dC, dI) (kT cI cJ cB) [.ref h_this, .int p1, .int p2, .int p3, .int p4, .int p5] [cl_X10 h_this h_this_dayAt h_this_secondAt h_this_spans h_this_kept h_this_text h_this_row h_this_read h_this_many h_this_first h_this_lengths h_this_page i_this j_this, (h_this_dayAt, .inl (cI, 8, .inl f_this_dayAt)), (h_this_secondAt, .inl (cI, 8, .inl f_this_secondAt)), (h_this_spans, .inl (cI, 24, .inl f_this_spans)), (h_this_row, .inl (cJ, 16, .inr (.inl f_this_row)))] [cl_X10 h_this h_this_dayAt h_this_secondAt h_this_spans h_this_kept h_this_text h_this_row h_this_read h_this_many h_this_first h_this_lengths h_this_page o_i_this j_this, (h_this_dayAt, .inl (cI, 8, .inl f_this_dayAt)), (h_this_secondAt, .inl (cI, 8, .inl f_this_secondAt)), (h_this_spans, .inl (cI, 24, .inl f_this_spans)), (h_this_row, .inl (cJ, 16, .inr (.inl o_f_this_row)))] r := by
  refine MI.of (cc := cX10_falls) (maxL := 9) (by decide) (Nat.le_of_ble_eq_true rfl) (fun p e s m args below meth c A Q ls KC hN hK hP hD hA hl hEnd => ?_)
  obtain ⟨hx, hb, hml, hown, hts⟩ := KC
  have hown : s.vm.findClass "DateSpansModel" = some m.cls := hown
  have hl : lv_has ls 9 [(0, .ref h_this), (1, .int p1), (2, .int p2), (3, .int p3), (4, .int p4), (5, .int p5)] := hl
  have hS : va_S A s.heap s.heap [] := va_S.rf
  have LP_63 : ∀ n_63 : Nat, ∀ (v1 : Int32) (v2 : Int32) (v3 : Int32) (v4 : Int32) (v5 : Int32) (v6 : Int32) (v7 : Int32) (v8 : Int32) (i_this : Nat → Int32) (f_this_row : Nat → Int64) (ls : Array Slot) (H : Heap) (locs : List Loc), fX10_falls_l63 N j_this f_this_dayAt f_this_secondAt f_this_spans n_63 v1 v2 v3 v4 v5 v6 v7 v8 i_this f_this_row = some (r, o_i_this, o_f_this_row) → lv_has ls 9 [(0, .ref h_this), (1, .int v1), (2, .int v2), (3, .int v3), (4, .int v4), (5, .int v5), (6, .int v6), (7, .int v7), (8, .int v8)] → va_P (dC, dI) vwCl [cl_X10 h_this h_this_dayAt h_this_secondAt h_this_spans h_this_kept h_this_text h_this_row h_this_read h_this_many h_this_first h_this_lengths h_this_page i_this j_this, (h_this_dayAt, .inl (cI, 8, .inl f_this_dayAt)), (h_this_secondAt, .inl (cI, 8, .inl f_this_secondAt)), (h_this_spans, .inl (cI, 24, .inl f_this_spans)), (h_this_row, .inl (cJ, 16, .inr (.inl f_this_row)))] H → va_D A [cl_X10 h_this h_this_dayAt h_this_secondAt h_this_spans h_this_kept h_this_text h_this_row h_this_read h_this_many h_this_first h_this_lengths h_this_page i_this j_this, (h_this_dayAt, .inl (cI, 8, .inl f_this_dayAt)), (h_this_secondAt, .inl (cI, 8, .inl f_this_secondAt)), (h_this_spans, .inl (cI, 24, .inl f_this_spans)), (h_this_row, .inl (cJ, 16, .inr (.inl f_this_row)))] → va_S A s.heap H locs → W p l e (kR 7 174) s m args below meth c H locs 0 0 Q (F0 m 63 ls []) := by
    intro n_63
    induction n_63 with
    | zero =>
      intro v1 v2 v3 v4 v5 v6 v7 v8 i_this f_this_row ls H locs h hl hP hD hS
      rw [fX10_falls_l63_0] at h; cases h
    | succ n_63 ih_63 =>
      intro v1 v2 v3 v4 v5 v6 v7 v8 i_this f_this_row ls H locs h hl hP hD hS
      rw [fX10_falls_l63_s] at h
      refine lv_iload hx hb dX10_falls_63 (lv_at hl 8 rfl) ?_
      refine lv_iload hx hb dX10_falls_65 (lv_at hl 4 rfl) ?_
      refine lv_icmp_gt (tgt := 120) hx hb dX10_falls_67 (by decide) (fun c1 => ?_) (fun c1 => ?_)
      · have h := ite_t c1 h
        refine lv_aload_n hx hb dX10_falls_120 rfl (lv_at hl 0 rfl) ?_
        refine lv_iconst (v := (0 : Int32)) hx hb dX10_falls_121 (by decide) ?_
        refine va_put (D := (dC, dI)) (ci := 9) (v := .int (0 : Int32)) (ty := .int) (C := RX10) (T := TX10) (N := 29) hx hb hts inX10 tyX10 tyX10_ok nmX10 hown hK hP hD hS 0 rfl rfl 8 (by decide) (hts _ (kq q_994 rfl)) (fun _ h9 => h9) rfl (by decide +kernel) rfl rfl (Nat.le_of_ble_eq_true rfl) dX10_falls_122 (fun H locs hP hD hS => ?_)
        have hP : va_P (dC, dI) vwCl [(h_this, .inr (9, [.ref h_this_dayAt, .ref h_this_secondAt, .ref h_this_spans, .ref h_this_kept, .int (i_this 4), .ref h_this_text, .int (i_this 6), .ref h_this_row, .int (0 : Int32), .int (i_this 9), .int (i_this 10), .int (i_this 11), .int (i_this 12), .int (i_this 13), .int (i_this 14), .int (i_this 15), .int (i_this 16), .int (i_this 17), .int (i_this 18), .ref h_this_read, .long (j_this 20), .ref h_this_many, .ref h_this_first, .ref h_this_lengths, .int (i_this 24), .long (j_this 25), .long (j_this 26), .ref h_this_page, .int (i_this 28)])), (h_this_dayAt, .inl (cI, 8, .inl f_this_dayAt)), (h_this_secondAt, .inl (cI, 8, .inl f_this_secondAt)), (h_this_spans, .inl (cI, 24, .inl f_this_spans)), (h_this_row, .inl (cJ, 16, .inr (.inl f_this_row)))] H := hP
        have hD : va_D A [(h_this, .inr (9, [.ref h_this_dayAt, .ref h_this_secondAt, .ref h_this_spans, .ref h_this_kept, .int (i_this 4), .ref h_this_text, .int (i_this 6), .ref h_this_row, .int (0 : Int32), .int (i_this 9), .int (i_this 10), .int (i_this 11), .int (i_this 12), .int (i_this 13), .int (i_this 14), .int (i_this 15), .int (i_this 16), .int (i_this 17), .int (i_this 18), .ref h_this_read, .long (j_this 20), .ref h_this_many, .ref h_this_first, .ref h_this_lengths, .int (i_this 24), .long (j_this 25), .long (j_this 26), .ref h_this_page, .int (i_this 28)])), (h_this_dayAt, .inl (cI, 8, .inl f_this_dayAt)), (h_this_secondAt, .inl (cI, 8, .inl f_this_secondAt)), (h_this_spans, .inl (cI, 24, .inl f_this_spans)), (h_this_row, .inl (cJ, 16, .inr (.inl f_this_row)))] := hD
        refine lv_aload_n hx hb dX10_falls_125 rfl (lv_at hl 0 rfl) ?_
        refine lv_iload hx hb dX10_falls_126 (lv_at hl 7 rfl) ?_
        refine lv_i2l hx hb dX10_falls_128 rfl ?_
        have hP : va_P (dC, dI) vwCl [cl_X10 h_this h_this_dayAt h_this_secondAt h_this_spans h_this_kept h_this_text h_this_row h_this_read h_this_many h_this_first h_this_lengths h_this_page (upd i_this 8 (0 : Int32)) j_this, (h_this_dayAt, .inl (cI, 8, .inl f_this_dayAt)), (h_this_secondAt, .inl (cI, 8, .inl f_this_secondAt)), (h_this_spans, .inl (cI, 24, .inl f_this_spans)), (h_this_row, .inl (cJ, 16, .inr (.inl f_this_row)))] H := hP
        have hD : va_D A [cl_X10 h_this h_this_dayAt h_this_secondAt h_this_spans h_this_kept h_this_text h_this_row h_this_read h_this_many h_this_first h_this_lengths h_this_page (upd i_this 8 (0 : Int32)) j_this, (h_this_dayAt, .inl (cI, 8, .inl f_this_dayAt)), (h_this_secondAt, .inl (cI, 8, .inl f_this_secondAt)), (h_this_spans, .inl (cI, 24, .inl f_this_spans)), (h_this_row, .inl (cJ, 16, .inr (.inl f_this_row)))] := hD
        obtain ⟨i_this_2, f_this_row_3, hc4, h⟩ := bd2_at h
        refine kjV (kV (own := "DateSpansModel") (C := "DateSpansModel") (b := h_this) (As := [.long v7.toInt64]) (rest := []) ⟨hx, hb, hml, hown, hts⟩ (kX10_tell l dC dI cI cJ cB h_this h_this_dayAt h_this_secondAt h_this_spans h_this_kept h_this_text h_this_row h_this_read h_this_many h_this_first h_this_lengths h_this_page N v7.toInt64 (upd i_this 8 (0 : Int32)) j_this f_this_row i_this_2 f_this_row_3 hc4 _) (kgV (kq q_1221 rfl) (kq q_1223 rfl) (kq q_29 rfl) (kq q_66 rfl) (kq q_1224 rfl)) yd_X10_tell ⟨Nat.le_of_ble_eq_true rfl, Nat.le_of_ble_eq_true rfl⟩ hN hK hP hD [0, 4] rfl rfl (ci := 9) rfl rfl rfl rfl rfl hl.1 rfl (lv_room (Nat.le_of_ble_eq_true rfl)) dX10_falls_129) hP hD hS hA [0, 4] rfl rfl (fun H locs hP hD hS => ?_)
        have hP : va_P (dC, dI) vwCl [cl_X10 h_this h_this_dayAt h_this_secondAt h_this_spans h_this_kept h_this_text h_this_row h_this_read h_this_many h_this_first h_this_lengths h_this_page i_this_2 j_this, (h_this_dayAt, .inl (cI, 8, .inl f_this_dayAt)), (h_this_secondAt, .inl (cI, 8, .inl f_this_secondAt)), (h_this_spans, .inl (cI, 24, .inl f_this_spans)), (h_this_row, .inl (cJ, 16, .inr (.inl f_this_row_3)))] H := hP
        have hD : va_D A [cl_X10 h_this h_this_dayAt h_this_secondAt h_this_spans h_this_kept h_this_text h_this_row h_this_read h_this_many h_this_first h_this_lengths h_this_page i_this_2 j_this, (h_this_dayAt, .inl (cI, 8, .inl f_this_dayAt)), (h_this_secondAt, .inl (cI, 8, .inl f_this_secondAt)), (h_this_spans, .inl (cI, 24, .inl f_this_spans)), (h_this_row, .inl (cJ, 16, .inr (.inl f_this_row_3)))] := hD
        refine lv_iload hx hb dX10_falls_132 (lv_at hl 6 rfl) ?_
        obtain ⟨rfl, rfl, rfl⟩ := pj3 h
        exact hEnd _ _ _ _ hP hS dX10_falls_134 rfl
      have h := ite_f c1 h
      refine lv_aload_n hx hb dX10_falls_70 rfl (lv_at hl 0 rfl) ?_
      refine lv_iload_n hx hb dX10_falls_71 rfl (lv_at hl 1 rfl) ?_
      refine lv_iload_n hx hb dX10_falls_72 rfl (lv_at hl 2 rfl) ?_
      refine lv_iload_n hx hb dX10_falls_73 rfl (lv_at hl 3 rfl) ?_
      refine lv_iload hx hb dX10_falls_74 (lv_at hl 8 rfl) ?_
      obtain ⟨r5, i_this_6, hc7, h⟩ := bd2_at h
      refine kjI (kV (own := "DateSpansModel") (C := "DateSpansModel") (b := h_this) (As := [.int v1, .int v2, .int v3, .int v8]) (rest := []) ⟨hx, hb, hml, hown, hts⟩ (kX10_leads l dC dI cI cJ cB h_this h_this_dayAt h_this_secondAt h_this_spans h_this_kept h_this_text h_this_row h_this_read h_this_many h_this_first h_this_lengths h_this_page N v1 v2 v3 v8 i_this j_this f_this_dayAt f_this_secondAt f_this_spans r5 i_this_6 hc7 _) (kgV (kq q_1419 rfl) (kq q_1421 rfl) (kq q_48 rfl) (kq q_66 rfl) (kq q_1422 rfl)) yd_X10_leads ⟨Nat.le_of_ble_eq_true rfl, Nat.le_of_ble_eq_true rfl⟩ hN hK hP hD [0, 1, 2, 3] rfl rfl (ci := 9) rfl rfl rfl rfl rfl hl.1 rfl (lv_room (Nat.le_of_ble_eq_true rfl)) dX10_falls_76) hP hD hS hA [0, 1, 2, 3] rfl rfl (fun H locs hP hD hS => ?_)
      have hP : va_P (dC, dI) vwCl [cl_X10 h_this h_this_dayAt h_this_secondAt h_this_spans h_this_kept h_this_text h_this_row h_this_read h_this_many h_this_first h_this_lengths h_this_page i_this_6 j_this, (h_this_dayAt, .inl (cI, 8, .inl f_this_dayAt)), (h_this_secondAt, .inl (cI, 8, .inl f_this_secondAt)), (h_this_spans, .inl (cI, 24, .inl f_this_spans)), (h_this_row, .inl (cJ, 16, .inr (.inl f_this_row)))] H := hP
      have hD : va_D A [cl_X10 h_this h_this_dayAt h_this_secondAt h_this_spans h_this_kept h_this_text h_this_row h_this_read h_this_many h_this_first h_this_lengths h_this_page i_this_6 j_this, (h_this_dayAt, .inl (cI, 8, .inl f_this_dayAt)), (h_this_secondAt, .inl (cI, 8, .inl f_this_secondAt)), (h_this_spans, .inl (cI, 24, .inl f_this_spans)), (h_this_row, .inl (cJ, 16, .inr (.inl f_this_row)))] := hD
      refine lv_if_eq (tgt := 114) hx hb dX10_falls_79 (by decide) (fun c8 => ?_) (fun c8 => ?_)
      · have h := ite_t c8 h
        obtain ⟨z9, ez9⟩ : ∃ y : Int32, y = (v8 + (1 : Int32)) := ⟨_, rfl⟩
        have h := nm_at ez9 h
        refine lv_iinc (v := z9) (lv' := [(8, .int z9), (0, .ref h_this), (1, .int v1), (2, .int v2), (3, .int v3), (4, .int v4), (5, .int v5), (6, .int v6), (7, .int v7)]) hx hb dX10_falls_114 hl (k := 8) rfl (by rw [ez9]; rfl) (by decide) rfl (fun ls hl => ?_)
        refine lv_goto (tgt := 63) hx hb dX10_falls_117 (by decide) ?_
        exact ih_63 _ _ _ _ _ _ _ _ _ _ _ _ _ h (lv_sub hl [1, 2, 3, 4, 5, 6, 7, 8, 0] rfl) hP hD hS
      have h := ite_f c8 h
      refine lv_aload_n hx hb dX10_falls_82 rfl (lv_at hl 0 rfl) ?_
      refine va_get (D := (dC, dI)) (ci := 9) (v := .int (i_this_6 13)) (C := RX10) (T := TX10) (N := 29) hx hb hts inX10 hown hK hP 0 rfl rfl 13 (by decide) (hts _ (kq q_999 rfl)) (fun _ h9 => h9) rfl dX10_falls_83 ?_
      refine lv_bipush (v := (7 : Int32)) hx hb dX10_falls_86 (by decide) ?_
      refine lv_irem hx hb dX10_falls_88 (by decide) ?_
      refine lv_iload hx hb dX10_falls_89 (lv_at hl 5 rfl) ?_
      refine lv_icmp_eq (tgt := 97) hx hb dX10_falls_91 (by decide) (fun c10 => ?_) (fun c10 => ?_)
      · have h := ite_t c10 h
        refine lv_iload hx hb dX10_falls_97 (lv_at hl 6 rfl) ?_
        refine lv_if_ne (tgt := 107) hx hb dX10_falls_99 (by decide) (fun c11 => ?_) (fun c11 => ?_)
        · have h := ite_f c11 h
          refine lv_iload hx hb dX10_falls_107 (lv_at hl 7 rfl) ?_
          refine lv_istore (lv' := [(7, .int v7), (0, .ref h_this), (1, .int v1), (2, .int v2), (3, .int v3), (4, .int v4), (5, .int v5), (6, .int v6), (8, .int v8)]) hx hb dX10_falls_109 hl (by decide) rfl (fun ls hl => ?_)
          obtain ⟨z12, ez12⟩ : ∃ y : Int32, y = (v6 + (1 : Int32)) := ⟨_, rfl⟩
          have h := nm_at ez12 h
          refine lv_iinc (v := z12) (lv' := [(6, .int z12), (7, .int v7), (0, .ref h_this), (1, .int v1), (2, .int v2), (3, .int v3), (4, .int v4), (5, .int v5), (8, .int v8)]) hx hb dX10_falls_111 hl (k := 7) rfl (by rw [ez12]; rfl) (by decide) rfl (fun ls hl => ?_)
          obtain ⟨z13, ez13⟩ : ∃ y : Int32, y = (v8 + (1 : Int32)) := ⟨_, rfl⟩
          have h := nm_at ez13 h
          refine lv_iinc (v := z13) (lv' := [(8, .int z13), (6, .int z12), (7, .int v7), (0, .ref h_this), (1, .int v1), (2, .int v2), (3, .int v3), (4, .int v4), (5, .int v5)]) hx hb dX10_falls_114 hl (k := 8) rfl (by rw [ez13]; rfl) (by decide) rfl (fun ls hl => ?_)
          refine lv_goto (tgt := 63) hx hb dX10_falls_117 (by decide) ?_
          exact ih_63 _ _ _ _ _ _ _ _ _ _ _ _ _ h (lv_sub hl [3, 4, 5, 6, 7, 8, 1, 2, 0] rfl) hP hD hS
        have h := ite_t c11 h
        refine lv_iload hx hb dX10_falls_102 (lv_at hl 8 rfl) ?_
        refine lv_goto (tgt := 109) hx hb dX10_falls_104 (by decide) ?_
        refine lv_istore (lv' := [(7, .int v8), (0, .ref h_this), (1, .int v1), (2, .int v2), (3, .int v3), (4, .int v4), (5, .int v5), (6, .int v6), (8, .int v8)]) hx hb dX10_falls_109 hl (by decide) rfl (fun ls hl => ?_)
        obtain ⟨z14, ez14⟩ : ∃ y : Int32, y = (v6 + (1 : Int32)) := ⟨_, rfl⟩
        have h := nm_at ez14 h
        refine lv_iinc (v := z14) (lv' := [(6, .int z14), (7, .int v8), (0, .ref h_this), (1, .int v1), (2, .int v2), (3, .int v3), (4, .int v4), (5, .int v5), (8, .int v8)]) hx hb dX10_falls_111 hl (k := 7) rfl (by rw [ez14]; rfl) (by decide) rfl (fun ls hl => ?_)
        obtain ⟨z15, ez15⟩ : ∃ y : Int32, y = (v8 + (1 : Int32)) := ⟨_, rfl⟩
        have h := nm_at ez15 h
        refine lv_iinc (v := z15) (lv' := [(8, .int z15), (6, .int z14), (7, .int v8), (0, .ref h_this), (1, .int v1), (2, .int v2), (3, .int v3), (4, .int v4), (5, .int v5)]) hx hb dX10_falls_114 hl (k := 8) rfl (by rw [ez15]; rfl) (by decide) rfl (fun ls hl => ?_)
        refine lv_goto (tgt := 63) hx hb dX10_falls_117 (by decide) ?_
        exact ih_63 _ _ _ _ _ _ _ _ _ _ _ _ _ h (lv_sub hl [3, 4, 5, 6, 7, 8, 1, 2, 0] rfl) hP hD hS
      have h := ite_f c10 h
      refine lv_goto (tgt := 114) hx hb dX10_falls_94 (by decide) ?_
      obtain ⟨z16, ez16⟩ : ∃ y : Int32, y = (v8 + (1 : Int32)) := ⟨_, rfl⟩
      have h := nm_at ez16 h
      refine lv_iinc (v := z16) (lv' := [(8, .int z16), (0, .ref h_this), (1, .int v1), (2, .int v2), (3, .int v3), (4, .int v4), (5, .int v5), (6, .int v6), (7, .int v7)]) hx hb dX10_falls_114 hl (k := 8) rfl (by rw [ez16]; rfl) (by decide) rfl (fun ls hl => ?_)
      refine lv_goto (tgt := 63) hx hb dX10_falls_117 (by decide) ?_
      exact ih_63 _ _ _ _ _ _ _ _ _ _ _ _ _ h (lv_sub hl [1, 2, 3, 4, 5, 6, 7, 8, 0] rfl) hP hD hS
  have h := hf
  unfold fX10_falls at h
  refine lv_aload_n hx hb dX10_falls_0 rfl (lv_at hl 0 rfl) ?_
  refine lv_iconst (v := (0 : Int32)) hx hb dX10_falls_1 (by decide) ?_
  refine va_put (D := (dC, dI)) (ci := 9) (v := .int (0 : Int32)) (ty := .int) (C := RX10) (T := TX10) (N := 29) hx hb hts inX10 tyX10 tyX10_ok nmX10 hown hK hP hD hS 0 rfl rfl 9 (by decide) (hts _ (kq q_995 rfl)) (fun _ h9 => h9) rfl (by decide +kernel) rfl rfl (Nat.le_of_ble_eq_true rfl) dX10_falls_2 (fun H locs hP hD hS => ?_)
  have hP : va_P (dC, dI) vwCl [(h_this, .inr (9, [.ref h_this_dayAt, .ref h_this_secondAt, .ref h_this_spans, .ref h_this_kept, .int (i_this 4), .ref h_this_text, .int (i_this 6), .ref h_this_row, .int (i_this 8), .int (0 : Int32), .int (i_this 10), .int (i_this 11), .int (i_this 12), .int (i_this 13), .int (i_this 14), .int (i_this 15), .int (i_this 16), .int (i_this 17), .int (i_this 18), .ref h_this_read, .long (j_this 20), .ref h_this_many, .ref h_this_first, .ref h_this_lengths, .int (i_this 24), .long (j_this 25), .long (j_this 26), .ref h_this_page, .int (i_this 28)])), (h_this_dayAt, .inl (cI, 8, .inl f_this_dayAt)), (h_this_secondAt, .inl (cI, 8, .inl f_this_secondAt)), (h_this_spans, .inl (cI, 24, .inl f_this_spans)), (h_this_row, .inl (cJ, 16, .inr (.inl f_this_row)))] H := hP
  have hD : va_D A [(h_this, .inr (9, [.ref h_this_dayAt, .ref h_this_secondAt, .ref h_this_spans, .ref h_this_kept, .int (i_this 4), .ref h_this_text, .int (i_this 6), .ref h_this_row, .int (i_this 8), .int (0 : Int32), .int (i_this 10), .int (i_this 11), .int (i_this 12), .int (i_this 13), .int (i_this 14), .int (i_this 15), .int (i_this 16), .int (i_this 17), .int (i_this 18), .ref h_this_read, .long (j_this 20), .ref h_this_many, .ref h_this_first, .ref h_this_lengths, .int (i_this 24), .long (j_this 25), .long (j_this 26), .ref h_this_page, .int (i_this 28)])), (h_this_dayAt, .inl (cI, 8, .inl f_this_dayAt)), (h_this_secondAt, .inl (cI, 8, .inl f_this_secondAt)), (h_this_spans, .inl (cI, 24, .inl f_this_spans)), (h_this_row, .inl (cJ, 16, .inr (.inl f_this_row)))] := hD
  refine lv_iload_n hx hb dX10_falls_5 rfl (lv_at hl 1 rfl) ?_
  have hP : va_P (dC, dI) vwCl [cl_X10 h_this h_this_dayAt h_this_secondAt h_this_spans h_this_kept h_this_text h_this_row h_this_read h_this_many h_this_first h_this_lengths h_this_page (upd i_this 9 (0 : Int32)) j_this, (h_this_dayAt, .inl (cI, 8, .inl f_this_dayAt)), (h_this_secondAt, .inl (cI, 8, .inl f_this_secondAt)), (h_this_spans, .inl (cI, 24, .inl f_this_spans)), (h_this_row, .inl (cJ, 16, .inr (.inl f_this_row)))] H := hP
  have hD : va_D A [cl_X10 h_this h_this_dayAt h_this_secondAt h_this_spans h_this_kept h_this_text h_this_row h_this_read h_this_many h_this_first h_this_lengths h_this_page (upd i_this 9 (0 : Int32)) j_this, (h_this_dayAt, .inl (cI, 8, .inl f_this_dayAt)), (h_this_secondAt, .inl (cI, 8, .inl f_this_secondAt)), (h_this_spans, .inl (cI, 24, .inl f_this_spans)), (h_this_row, .inl (cJ, 16, .inr (.inl f_this_row)))] := hD
  obtain ⟨r17, hc18, h⟩ := bd1_at h
  refine kjSI (kS0 (own := "DateSpansModel") (As := [.int p1]) (rest := []) ⟨hx, hb, hml, hown, hts⟩ (kX10_isSlot l N p1 r17 hc18) (kgS (kq q_1123 rfl) (kq q_1124 rfl) (kq q_66 rfl) (kq q_1125 rfl)) yd_X10_isSlot ⟨Nat.le_of_ble_eq_true rfl, Nat.le_of_ble_eq_true rfl⟩ rfl rfl hl.1 rfl (lv_room (Nat.le_of_ble_eq_true rfl)) dX10_falls_6) ?_
  refine lv_if_eq (tgt := 52) hx hb dX10_falls_9 (by decide) (fun c19 => ?_) (fun c19 => ?_)
  · have h := ite_t c19 h
    refine lv_iconst (v := (-1 : Int32)) hx hb dX10_falls_52 (by decide) ?_
    obtain ⟨rfl, rfl, rfl⟩ := pj3 h
    exact hEnd _ _ _ _ hP hS dX10_falls_53 rfl
  have h := ite_f c19 h
  refine lv_iload_n hx hb dX10_falls_12 rfl (lv_at hl 2 rfl) ?_
  obtain ⟨r20, hc21, h⟩ := bd1_at h
  refine kjSI (kS0 (own := "DateSpansModel") (As := [.int p2]) (rest := []) ⟨hx, hb, hml, hown, hts⟩ (kX10_isSlot l N p2 r20 hc21) (kgS (kq q_1123 rfl) (kq q_1124 rfl) (kq q_66 rfl) (kq q_1125 rfl)) yd_X10_isSlot ⟨Nat.le_of_ble_eq_true rfl, Nat.le_of_ble_eq_true rfl⟩ rfl rfl hl.1 rfl (lv_room (Nat.le_of_ble_eq_true rfl)) dX10_falls_13) ?_
  refine lv_if_eq (tgt := 52) hx hb dX10_falls_16 (by decide) (fun c22 => ?_) (fun c22 => ?_)
  · have h := ite_t c22 h
    refine lv_iconst (v := (-1 : Int32)) hx hb dX10_falls_52 (by decide) ?_
    obtain ⟨rfl, rfl, rfl⟩ := pj3 h
    exact hEnd _ _ _ _ hP hS dX10_falls_53 rfl
  have h := ite_f c22 h
  refine lv_iload_n hx hb dX10_falls_19 rfl (lv_at hl 3 rfl) ?_
  obtain ⟨r23, hc24, h⟩ := bd1_at h
  refine kjSI (kS0 (own := "DateSpansModel") (As := [.int p3]) (rest := []) ⟨hx, hb, hml, hown, hts⟩ (kX10_isLaw l N p3 r23 hc24) (kgS (kq q_1275 rfl) (kq q_1276 rfl) (kq q_66 rfl) (kq q_1277 rfl)) yd_X10_isLaw ⟨Nat.le_of_ble_eq_true rfl, Nat.le_of_ble_eq_true rfl⟩ rfl rfl hl.1 rfl (lv_room (Nat.le_of_ble_eq_true rfl)) dX10_falls_20) ?_
  refine lv_if_eq (tgt := 52) hx hb dX10_falls_23 (by decide) (fun c25 => ?_) (fun c25 => ?_)
  · have h := ite_t c25 h
    refine lv_iconst (v := (-1 : Int32)) hx hb dX10_falls_52 (by decide) ?_
    obtain ⟨rfl, rfl, rfl⟩ := pj3 h
    exact hEnd _ _ _ _ hP hS dX10_falls_53 rfl
  have h := ite_f c25 h
  refine lv_iload hx hb dX10_falls_26 (lv_at hl 4 rfl) ?_
  refine lv_i2l hx hb dX10_falls_28 rfl ?_
  refine lv_lconst (v := (0 : Int64)) hx hb dX10_falls_29 (by decide) ?_
  refine lv_ldc2 (v := (1000 : Int64)) hx hb hown (hts _ (kq q_1412 rfl)) dX10_falls_30 ?_
  obtain ⟨r26, hc27, h⟩ := bd1_at h
  refine kjSI (kS0 (own := "DateSpansModel") (As := [.long p4.toInt64, .long (0 : Int64), .long (1000 : Int64)]) (rest := []) ⟨hx, hb, hml, hown, hts⟩ (kX10_in l N p4.toInt64 (0 : Int64) (1000 : Int64) r26 hc27) (kgS (kq q_1086 rfl) (kq q_1087 rfl) (kq q_66 rfl) (kq q_1088 rfl)) yd_X10_in ⟨Nat.le_of_ble_eq_true rfl, Nat.le_of_ble_eq_true rfl⟩ rfl rfl hl.1 rfl (lv_room (Nat.le_of_ble_eq_true rfl)) dX10_falls_33) ?_
  refine lv_if_eq (tgt := 52) hx hb dX10_falls_36 (by decide) (fun c28 => ?_) (fun c28 => ?_)
  · have h := ite_t c28 h
    refine lv_iconst (v := (-1 : Int32)) hx hb dX10_falls_52 (by decide) ?_
    obtain ⟨rfl, rfl, rfl⟩ := pj3 h
    exact hEnd _ _ _ _ hP hS dX10_falls_53 rfl
  have h := ite_f c28 h
  refine lv_iload hx hb dX10_falls_39 (lv_at hl 5 rfl) ?_
  refine lv_i2l hx hb dX10_falls_41 rfl ?_
  refine lv_lconst (v := (0 : Int64)) hx hb dX10_falls_42 (by decide) ?_
  refine lv_ldc2 (v := (6 : Int64)) hx hb hown (hts _ (kq q_1427 rfl)) dX10_falls_43 ?_
  obtain ⟨r29, hc30, h⟩ := bd1_at h
  refine kjSI (kS0 (own := "DateSpansModel") (As := [.long p5.toInt64, .long (0 : Int64), .long (6 : Int64)]) (rest := []) ⟨hx, hb, hml, hown, hts⟩ (kX10_in l N p5.toInt64 (0 : Int64) (6 : Int64) r29 hc30) (kgS (kq q_1086 rfl) (kq q_1087 rfl) (kq q_66 rfl) (kq q_1088 rfl)) yd_X10_in ⟨Nat.le_of_ble_eq_true rfl, Nat.le_of_ble_eq_true rfl⟩ rfl rfl hl.1 rfl (lv_room (Nat.le_of_ble_eq_true rfl)) dX10_falls_46) ?_
  refine lv_if_ne (tgt := 54) hx hb dX10_falls_49 (by decide) (fun c31 => ?_) (fun c31 => ?_)
  · have h := ite_f c31 h
    refine lv_iconst (v := (0 : Int32)) hx hb dX10_falls_54 (by decide) ?_
    refine lv_istore (lv' := [(6, .int (0 : Int32)), (0, .ref h_this), (1, .int p1), (2, .int p2), (3, .int p3), (4, .int p4), (5, .int p5)]) hx hb dX10_falls_55 hl (by decide) rfl (fun ls hl => ?_)
    refine lv_iconst (v := (-1 : Int32)) hx hb dX10_falls_57 (by decide) ?_
    refine lv_istore (lv' := [(7, .int (-1 : Int32)), (6, .int (0 : Int32)), (0, .ref h_this), (1, .int p1), (2, .int p2), (3, .int p3), (4, .int p4), (5, .int p5)]) hx hb dX10_falls_58 hl (by decide) rfl (fun ls hl => ?_)
    refine lv_iconst (v := (0 : Int32)) hx hb dX10_falls_60 (by decide) ?_
    refine lv_istore (lv' := [(8, .int (0 : Int32)), (7, .int (-1 : Int32)), (6, .int (0 : Int32)), (0, .ref h_this), (1, .int p1), (2, .int p2), (3, .int p3), (4, .int p4), (5, .int p5)]) hx hb dX10_falls_61 hl (by decide) rfl (fun ls hl => ?_)
    exact LP_63 N _ _ _ _ _ _ _ _ _ _ _ _ _ h (lv_sub hl [3, 4, 5, 6, 7, 8, 2, 1, 0] rfl) hP hD hS
  have h := ite_t c31 h
  refine lv_iconst (v := (-1 : Int32)) hx hb dX10_falls_52 (by decide) ?_
  obtain ⟨rfl, rfl, rfl⟩ := pj3 h
  exact hEnd _ _ _ _ hP hS dX10_falls_53 rfl
noncomputable def fX10_nth_j139 (N : Nat) (j_this : Nat → Int64) (v5 : Int32) (v6 : Int32) (t0 : Int32) (i_this : Nat → Int32) : Option (Int32 × (Nat → Int32)) := (bd1 (fX10_in N t0.toInt64 v5.toInt64 v6.toInt64) fun r1 => (if r1 = (0 : Int32) then (some ((-2 : Int32), i_this)) else (some (t0, i_this))))
noncomputable def fX10_nth (N : Nat) (p1 : Int32) (p2 : Int32) (p3 : Int32) (p4 : Int32) (i_this : Nat → Int32) (j_this : Nat → Int64) : Option (Int32 × (Nat → Int32)) := (bd1 (fX10_in N p1.toInt64 (1 : Int64) (9999 : Int64)) fun r4 => (if r4 = (0 : Int32) then (some ((-1 : Int32), (upd i_this 9 (0 : Int32)))) else (bd1 (fX10_in N p2.toInt64 (1 : Int64) (12 : Int64)) fun r7 => (if r7 = (0 : Int32) then (some ((-1 : Int32), (upd i_this 9 (0 : Int32)))) else (bd1 (fX10_in N p3.toInt64 (0 : Int64) (6 : Int64)) fun r10 => (if r10 = (0 : Int32) then (some ((-1 : Int32), (upd i_this 9 (0 : Int32)))) else (bd1 (fX10_in N p4.toInt64 (-5 : Int64) (5 : Int64)) fun r13 => (if r13 = (0 : Int32) then (some ((-1 : Int32), (upd i_this 9 (0 : Int32)))) else (if p4 = (0 : Int32) then (some ((-1 : Int32), (upd i_this 9 (0 : Int32)))) else (bd1 (fX10_dayOf N p1 p2 (1 : Int32)) fun r17 => (bd1 (fX10_monthDays N p1 p2) fun r19 => (nm ((r17 + r19) - (1 : Int32)) fun z21 => (if p4 ≤ (0 : Int32) then (fX10_nth_j139 N j_this r17 z21 ((z21 - ((((z21 - z21 / (7 : Int32) * (7 : Int32)) - p3) + (7 : Int32)) - (((z21 - z21 / (7 : Int32) * (7 : Int32)) - p3) + (7 : Int32)) / (7 : Int32) * (7 : Int32))) + ((7 : Int32) * (p4 + (1 : Int32)))) (upd i_this 9 (0 : Int32))) else (fX10_nth_j139 N j_this r17 z21 ((r17 + (((p3 - (r17 - r17 / (7 : Int32) * (7 : Int32))) + (7 : Int32)) - ((p3 - (r17 - r17 / (7 : Int32) * (7 : Int32))) + (7 : Int32)) / (7 : Int32) * (7 : Int32))) + ((7 : Int32) * (p4 - (1 : Int32)))) (upd i_this 9 (0 : Int32))))))))))))))))
set_option maxHeartbeats 4000000 in
set_option maxRecDepth 100000 in
theorem kX10_nth (l : Launch) (dC : Nat → ClassId) (dI : Nat → Nat → Nat) (cI cJ cB : ClassId) (h_this h_this_dayAt h_this_secondAt h_this_spans h_this_kept h_this_text h_this_row h_this_read h_this_many h_this_first h_this_lengths h_this_page : Nat) (N : Nat) (p1 : Int32) (p2 : Int32) (p3 : Int32) (p4 : Int32) (i_this : Nat → Int32) (j_this : Nat → Int64) (r : Int32) (o_i_this : Nat → Int32) (hf : fX10_nth N p1 p2 p3 p4 i_this j_this = some (r, o_i_this)) : MI l yX10_nth (kws yX10_nth cX10_nth 8 (some .int)) (kR 2 43) (dC, dI) (kT cI cJ cB) [.ref h_this, .int p1, .int p2, .int p3, .int p4] [cl_X10 h_this h_this_dayAt h_this_secondAt h_this_spans h_this_kept h_this_text h_this_row h_this_read h_this_many h_this_first h_this_lengths h_this_page i_this j_this] [cl_X10 h_this h_this_dayAt h_this_secondAt h_this_spans h_this_kept h_this_text h_this_row h_this_read h_this_many h_this_first h_this_lengths h_this_page o_i_this j_this] r := by
  refine MI.of (cc := cX10_nth) (maxL := 8) (by decide) (Nat.le_of_ble_eq_true rfl) (fun p e s m args below meth c A Q ls KC hN hK hP hD hA hl hEnd => ?_)
  obtain ⟨hx, hb, hml, hown, hts⟩ := KC
  have hown : s.vm.findClass "DateSpansModel" = some m.cls := hown
  have hl : lv_has ls 8 [(0, .ref h_this), (1, .int p1), (2, .int p2), (3, .int p3), (4, .int p4)] := hl
  have hS : va_S A s.heap s.heap [] := va_S.rf
  have JN_139 : ∀ (v5 : Int32) (v6 : Int32) (t0 : Int32) (i_this : Nat → Int32) (ls : Array Slot) (H : Heap) (locs : List Loc), (fX10_nth_j139 N j_this) v5 v6 t0 i_this = some (r, o_i_this) → lv_has ls 8 [(5, .int v5), (6, .int v6)] → va_P (dC, dI) vwCl [cl_X10 h_this h_this_dayAt h_this_secondAt h_this_spans h_this_kept h_this_text h_this_row h_this_read h_this_many h_this_first h_this_lengths h_this_page i_this j_this] H → va_D A [cl_X10 h_this h_this_dayAt h_this_secondAt h_this_spans h_this_kept h_this_text h_this_row h_this_read h_this_many h_this_first h_this_lengths h_this_page i_this j_this] → va_S A s.heap H locs → W p l e (kR 2 43) s m args below meth c H locs 0 0 Q (F0 m 139 ls [.int t0]) := by
    intro v5 v6 t0 i_this ls H locs h hl hP hD hS
    unfold fX10_nth_j139 at h
    refine lv_istore (lv' := [(7, .int t0), (5, .int v5), (6, .int v6)]) hx hb dX10_nth_139 hl (by decide) rfl (fun ls hl => ?_)
    refine lv_iload hx hb dX10_nth_141 (lv_at hl 0 rfl) ?_
    refine lv_i2l hx hb dX10_nth_143 rfl ?_
    refine lv_iload hx hb dX10_nth_144 (lv_at hl 1 rfl) ?_
    refine lv_i2l hx hb dX10_nth_146 rfl ?_
    refine lv_iload hx hb dX10_nth_147 (lv_at hl 2 rfl) ?_
    refine lv_i2l hx hb dX10_nth_149 rfl ?_
    obtain ⟨r1, hc2, h⟩ := bd1_at h
    refine kjSI (kS0 (own := "DateSpansModel") (As := [.long t0.toInt64, .long v5.toInt64, .long v6.toInt64]) (rest := []) ⟨hx, hb, hml, hown, hts⟩ (kX10_in l N t0.toInt64 v5.toInt64 v6.toInt64 r1 hc2) (kgS (kq q_1086 rfl) (kq q_1087 rfl) (kq q_66 rfl) (kq q_1088 rfl)) yd_X10_in ⟨Nat.le_of_ble_eq_true rfl, Nat.le_of_ble_eq_true rfl⟩ rfl rfl hl.1 rfl (lv_room (Nat.le_of_ble_eq_true rfl)) dX10_nth_150) ?_
    refine lv_if_eq (tgt := 161) hx hb dX10_nth_153 (by decide) (fun c3 => ?_) (fun c3 => ?_)
    · have h := ite_t c3 h
      refine lv_bipush (v := (-2 : Int32)) hx hb dX10_nth_161 (by decide) ?_
      obtain ⟨rfl, rfl⟩ := pj2 h
      exact hEnd _ _ _ _ hP hS dX10_nth_163 rfl
    have h := ite_f c3 h
    refine lv_iload hx hb dX10_nth_156 (lv_at hl 0 rfl) ?_
    refine lv_goto (tgt := 163) hx hb dX10_nth_158 (by decide) ?_
    obtain ⟨rfl, rfl⟩ := pj2 h
    exact hEnd _ _ _ _ hP hS dX10_nth_163 rfl
  have h := hf
  unfold fX10_nth at h
  refine lv_aload_n hx hb dX10_nth_0 rfl (lv_at hl 0 rfl) ?_
  refine lv_iconst (v := (0 : Int32)) hx hb dX10_nth_1 (by decide) ?_
  refine va_put (D := (dC, dI)) (ci := 9) (v := .int (0 : Int32)) (ty := .int) (C := RX10) (T := TX10) (N := 29) hx hb hts inX10 tyX10 tyX10_ok nmX10 hown hK hP hD hS 0 rfl rfl 9 (by decide) (hts _ (kq q_995 rfl)) (fun _ h9 => h9) rfl (by decide +kernel) rfl rfl (Nat.le_of_ble_eq_true rfl) dX10_nth_2 (fun H locs hP hD hS => ?_)
  have hP : va_P (dC, dI) vwCl [(h_this, .inr (9, [.ref h_this_dayAt, .ref h_this_secondAt, .ref h_this_spans, .ref h_this_kept, .int (i_this 4), .ref h_this_text, .int (i_this 6), .ref h_this_row, .int (i_this 8), .int (0 : Int32), .int (i_this 10), .int (i_this 11), .int (i_this 12), .int (i_this 13), .int (i_this 14), .int (i_this 15), .int (i_this 16), .int (i_this 17), .int (i_this 18), .ref h_this_read, .long (j_this 20), .ref h_this_many, .ref h_this_first, .ref h_this_lengths, .int (i_this 24), .long (j_this 25), .long (j_this 26), .ref h_this_page, .int (i_this 28)]))] H := hP
  have hD : va_D A [(h_this, .inr (9, [.ref h_this_dayAt, .ref h_this_secondAt, .ref h_this_spans, .ref h_this_kept, .int (i_this 4), .ref h_this_text, .int (i_this 6), .ref h_this_row, .int (i_this 8), .int (0 : Int32), .int (i_this 10), .int (i_this 11), .int (i_this 12), .int (i_this 13), .int (i_this 14), .int (i_this 15), .int (i_this 16), .int (i_this 17), .int (i_this 18), .ref h_this_read, .long (j_this 20), .ref h_this_many, .ref h_this_first, .ref h_this_lengths, .int (i_this 24), .long (j_this 25), .long (j_this 26), .ref h_this_page, .int (i_this 28)]))] := hD
  refine lv_iload_n hx hb dX10_nth_5 rfl (lv_at hl 1 rfl) ?_
  refine lv_i2l hx hb dX10_nth_6 rfl ?_
  refine lv_lconst (v := (1 : Int64)) hx hb dX10_nth_7 (by decide) ?_
  refine lv_ldc2 (v := (9999 : Int64)) hx hb hown (hts _ (kq q_1265 rfl)) dX10_nth_8 ?_
  have hP : va_P (dC, dI) vwCl [cl_X10 h_this h_this_dayAt h_this_secondAt h_this_spans h_this_kept h_this_text h_this_row h_this_read h_this_many h_this_first h_this_lengths h_this_page (upd i_this 9 (0 : Int32)) j_this] H := hP
  have hD : va_D A [cl_X10 h_this h_this_dayAt h_this_secondAt h_this_spans h_this_kept h_this_text h_this_row h_this_read h_this_many h_this_first h_this_lengths h_this_page (upd i_this 9 (0 : Int32)) j_this] := hD
  obtain ⟨r4, hc5, h⟩ := bd1_at h
  refine kjSI (kS0 (own := "DateSpansModel") (As := [.long p1.toInt64, .long (1 : Int64), .long (9999 : Int64)]) (rest := []) ⟨hx, hb, hml, hown, hts⟩ (kX10_in l N p1.toInt64 (1 : Int64) (9999 : Int64) r4 hc5) (kgS (kq q_1086 rfl) (kq q_1087 rfl) (kq q_66 rfl) (kq q_1088 rfl)) yd_X10_in ⟨Nat.le_of_ble_eq_true rfl, Nat.le_of_ble_eq_true rfl⟩ rfl rfl hl.1 rfl (lv_room (Nat.le_of_ble_eq_true rfl)) dX10_nth_11) ?_
  refine lv_if_eq (tgt := 61) hx hb dX10_nth_14 (by decide) (fun c6 => ?_) (fun c6 => ?_)
  · have h := ite_t c6 h
    refine lv_iconst (v := (-1 : Int32)) hx hb dX10_nth_61 (by decide) ?_
    obtain ⟨rfl, rfl⟩ := pj2 h
    exact hEnd _ _ _ _ hP hS dX10_nth_62 rfl
  have h := ite_f c6 h
  refine lv_iload_n hx hb dX10_nth_17 rfl (lv_at hl 2 rfl) ?_
  refine lv_i2l hx hb dX10_nth_18 rfl ?_
  refine lv_lconst (v := (1 : Int64)) hx hb dX10_nth_19 (by decide) ?_
  refine lv_ldc2 (v := (12 : Int64)) hx hb hown (hts _ (kq q_1266 rfl)) dX10_nth_20 ?_
  obtain ⟨r7, hc8, h⟩ := bd1_at h
  refine kjSI (kS0 (own := "DateSpansModel") (As := [.long p2.toInt64, .long (1 : Int64), .long (12 : Int64)]) (rest := []) ⟨hx, hb, hml, hown, hts⟩ (kX10_in l N p2.toInt64 (1 : Int64) (12 : Int64) r7 hc8) (kgS (kq q_1086 rfl) (kq q_1087 rfl) (kq q_66 rfl) (kq q_1088 rfl)) yd_X10_in ⟨Nat.le_of_ble_eq_true rfl, Nat.le_of_ble_eq_true rfl⟩ rfl rfl hl.1 rfl (lv_room (Nat.le_of_ble_eq_true rfl)) dX10_nth_23) ?_
  refine lv_if_eq (tgt := 61) hx hb dX10_nth_26 (by decide) (fun c9 => ?_) (fun c9 => ?_)
  · have h := ite_t c9 h
    refine lv_iconst (v := (-1 : Int32)) hx hb dX10_nth_61 (by decide) ?_
    obtain ⟨rfl, rfl⟩ := pj2 h
    exact hEnd _ _ _ _ hP hS dX10_nth_62 rfl
  have h := ite_f c9 h
  refine lv_iload_n hx hb dX10_nth_29 rfl (lv_at hl 3 rfl) ?_
  refine lv_i2l hx hb dX10_nth_30 rfl ?_
  refine lv_lconst (v := (0 : Int64)) hx hb dX10_nth_31 (by decide) ?_
  refine lv_ldc2 (v := (6 : Int64)) hx hb hown (hts _ (kq q_1427 rfl)) dX10_nth_32 ?_
  obtain ⟨r10, hc11, h⟩ := bd1_at h
  refine kjSI (kS0 (own := "DateSpansModel") (As := [.long p3.toInt64, .long (0 : Int64), .long (6 : Int64)]) (rest := []) ⟨hx, hb, hml, hown, hts⟩ (kX10_in l N p3.toInt64 (0 : Int64) (6 : Int64) r10 hc11) (kgS (kq q_1086 rfl) (kq q_1087 rfl) (kq q_66 rfl) (kq q_1088 rfl)) yd_X10_in ⟨Nat.le_of_ble_eq_true rfl, Nat.le_of_ble_eq_true rfl⟩ rfl rfl hl.1 rfl (lv_room (Nat.le_of_ble_eq_true rfl)) dX10_nth_35) ?_
  refine lv_if_eq (tgt := 61) hx hb dX10_nth_38 (by decide) (fun c12 => ?_) (fun c12 => ?_)
  · have h := ite_t c12 h
    refine lv_iconst (v := (-1 : Int32)) hx hb dX10_nth_61 (by decide) ?_
    obtain ⟨rfl, rfl⟩ := pj2 h
    exact hEnd _ _ _ _ hP hS dX10_nth_62 rfl
  have h := ite_f c12 h
  refine lv_iload hx hb dX10_nth_41 (lv_at hl 4 rfl) ?_
  refine lv_i2l hx hb dX10_nth_43 rfl ?_
  refine lv_ldc2 (v := (-5 : Int64)) hx hb hown (hts _ (kq q_1464 rfl)) dX10_nth_44 ?_
  refine lv_ldc2 (v := (5 : Int64)) hx hb hown (hts _ (kq q_1445 rfl)) dX10_nth_47 ?_
  obtain ⟨r13, hc14, h⟩ := bd1_at h
  refine kjSI (kS0 (own := "DateSpansModel") (As := [.long p4.toInt64, .long (-5 : Int64), .long (5 : Int64)]) (rest := []) ⟨hx, hb, hml, hown, hts⟩ (kX10_in l N p4.toInt64 (-5 : Int64) (5 : Int64) r13 hc14) (kgS (kq q_1086 rfl) (kq q_1087 rfl) (kq q_66 rfl) (kq q_1088 rfl)) yd_X10_in ⟨Nat.le_of_ble_eq_true rfl, Nat.le_of_ble_eq_true rfl⟩ rfl rfl hl.1 rfl (lv_room (Nat.le_of_ble_eq_true rfl)) dX10_nth_50) ?_
  refine lv_if_eq (tgt := 61) hx hb dX10_nth_53 (by decide) (fun c15 => ?_) (fun c15 => ?_)
  · have h := ite_t c15 h
    refine lv_iconst (v := (-1 : Int32)) hx hb dX10_nth_61 (by decide) ?_
    obtain ⟨rfl, rfl⟩ := pj2 h
    exact hEnd _ _ _ _ hP hS dX10_nth_62 rfl
  have h := ite_f c15 h
  refine lv_iload hx hb dX10_nth_56 (lv_at hl 4 rfl) ?_
  refine lv_if_ne (tgt := 63) hx hb dX10_nth_58 (by decide) (fun c16 => ?_) (fun c16 => ?_)
  · have h := ite_f c16 h
    refine lv_iload_n hx hb dX10_nth_63 rfl (lv_at hl 1 rfl) ?_
    refine lv_iload_n hx hb dX10_nth_64 rfl (lv_at hl 2 rfl) ?_
    refine lv_iconst (v := (1 : Int32)) hx hb dX10_nth_65 (by decide) ?_
    obtain ⟨r17, hc18, h⟩ := bd1_at h
    refine kjSI (kS0 (own := "DateSpansModel") (As := [.int p1, .int p2, .int (1 : Int32)]) (rest := []) ⟨hx, hb, hml, hown, hts⟩ (kX10_dayOf l N p1 p2 (1 : Int32) r17 hc18) (kgS (kq q_1127 rfl) (kq q_1128 rfl) (kq q_66 rfl) (kq q_1129 rfl)) yd_X10_dayOf ⟨Nat.le_of_ble_eq_true rfl, Nat.le_of_ble_eq_true rfl⟩ rfl rfl hl.1 rfl (lv_room (Nat.le_of_ble_eq_true rfl)) dX10_nth_66) ?_
    refine lv_istore (lv' := [(5, .int r17), (0, .ref h_this), (1, .int p1), (2, .int p2), (3, .int p3), (4, .int p4)]) hx hb dX10_nth_69 hl (by decide) rfl (fun ls hl => ?_)
    refine lv_iload hx hb dX10_nth_71 (lv_at hl 0 rfl) ?_
    refine lv_iload_n hx hb dX10_nth_73 rfl (lv_at hl 2 rfl) ?_
    refine lv_iload_n hx hb dX10_nth_74 rfl (lv_at hl 3 rfl) ?_
    obtain ⟨r19, hc20, h⟩ := bd1_at h
    refine kjSI (kS0 (own := "DateSpansModel") (As := [.int p1, .int p2]) (rest := [.int r17]) ⟨hx, hb, hml, hown, hts⟩ (kX10_monthDays l N p1 p2 r19 hc20) (kgS (kq q_1117 rfl) (kq q_1118 rfl) (kq q_66 rfl) (kq q_1119 rfl)) yd_X10_monthDays ⟨Nat.le_of_ble_eq_true rfl, Nat.le_of_ble_eq_true rfl⟩ rfl rfl hl.1 rfl (lv_room (Nat.le_of_ble_eq_true rfl)) dX10_nth_75) ?_
    refine lv_iadd hx hb dX10_nth_78 ?_
    refine lv_iconst (v := (1 : Int32)) hx hb dX10_nth_79 (by decide) ?_
    refine lv_isub hx hb dX10_nth_80 ?_
    refine lv_topi (fun z21 ez21 => ?_)
    have h := nm_at ez21 h
    refine lv_istore (lv' := [(6, .int z21), (5, .int r17), (0, .ref h_this), (1, .int p1), (2, .int p2), (3, .int p3), (4, .int p4)]) hx hb dX10_nth_81 hl (by decide) rfl (fun ls hl => ?_)
    refine lv_iload hx hb dX10_nth_83 (lv_at hl 6 rfl) ?_
    refine lv_if_le (tgt := 115) hx hb dX10_nth_85 (by decide) (fun c22 => ?_) (fun c22 => ?_)
    · have h := ite_t c22 h
      refine lv_iload hx hb dX10_nth_115 (lv_at hl 0 rfl) ?_
      refine lv_iload hx hb dX10_nth_117 (lv_at hl 0 rfl) ?_
      refine lv_bipush (v := (7 : Int32)) hx hb dX10_nth_119 (by decide) ?_
      refine lv_irem hx hb dX10_nth_121 (by decide) ?_
      refine lv_iload_n hx hb dX10_nth_122 rfl (lv_at hl 5 rfl) ?_
      refine lv_isub hx hb dX10_nth_123 ?_
      refine lv_bipush (v := (7 : Int32)) hx hb dX10_nth_124 (by decide) ?_
      refine lv_iadd hx hb dX10_nth_126 ?_
      refine lv_bipush (v := (7 : Int32)) hx hb dX10_nth_127 (by decide) ?_
      refine lv_irem hx hb dX10_nth_129 (by decide) ?_
      refine lv_isub hx hb dX10_nth_130 ?_
      refine lv_bipush (v := (7 : Int32)) hx hb dX10_nth_131 (by decide) ?_
      refine lv_iload hx hb dX10_nth_133 (lv_at hl 6 rfl) ?_
      refine lv_iconst (v := (1 : Int32)) hx hb dX10_nth_135 (by decide) ?_
      refine lv_iadd hx hb dX10_nth_136 ?_
      refine lv_imul hx hb dX10_nth_137 ?_
      refine lv_iadd hx hb dX10_nth_138 ?_
      exact JN_139 _ _ _ _ _ _ _ h (lv_sub hl [1, 0] rfl) hP hD hS
    have h := ite_f c22 h
    refine lv_iload hx hb dX10_nth_88 (lv_at hl 1 rfl) ?_
    refine lv_iload_n hx hb dX10_nth_90 rfl (lv_at hl 5 rfl) ?_
    refine lv_iload hx hb dX10_nth_91 (lv_at hl 1 rfl) ?_
    refine lv_bipush (v := (7 : Int32)) hx hb dX10_nth_93 (by decide) ?_
    refine lv_irem hx hb dX10_nth_95 (by decide) ?_
    refine lv_isub hx hb dX10_nth_96 ?_
    refine lv_bipush (v := (7 : Int32)) hx hb dX10_nth_97 (by decide) ?_
    refine lv_iadd hx hb dX10_nth_99 ?_
    refine lv_bipush (v := (7 : Int32)) hx hb dX10_nth_100 (by decide) ?_
    refine lv_irem hx hb dX10_nth_102 (by decide) ?_
    refine lv_iadd hx hb dX10_nth_103 ?_
    refine lv_bipush (v := (7 : Int32)) hx hb dX10_nth_104 (by decide) ?_
    refine lv_iload hx hb dX10_nth_106 (lv_at hl 6 rfl) ?_
    refine lv_iconst (v := (1 : Int32)) hx hb dX10_nth_108 (by decide) ?_
    refine lv_isub hx hb dX10_nth_109 ?_
    refine lv_imul hx hb dX10_nth_110 ?_
    refine lv_iadd hx hb dX10_nth_111 ?_
    refine lv_goto (tgt := 139) hx hb dX10_nth_112 (by decide) ?_
    exact JN_139 _ _ _ _ _ _ _ h (lv_sub hl [1, 0] rfl) hP hD hS
  have h := ite_t c16 h
  refine lv_iconst (v := (-1 : Int32)) hx hb dX10_nth_61 (by decide) ?_
  obtain ⟨rfl, rfl⟩ := pj2 h
  exact hEnd _ _ _ _ hP hS dX10_nth_62 rfl
noncomputable def fX10_workdays_l65 (N : Nat) (j_this : Nat → Int64) (f_this_dayAt : Nat → Int32) (n : Nat) : Int32 → Int32 → Int32 → Int32 → Int32 → Int32 → (Nat → Int32) → (Nat → Int64) → Option (Int32 × (Nat → Int32) × (Nat → Int64)) := Nat.rec (motive := fun _ => Int32 → Int32 → Int32 → Int32 → Int32 → Int32 → (Nat → Int32) → (Nat → Int64) → Option (Int32 × (Nat → Int32) × (Nat → Int64))) (fun _ _ _ _ _ _ _ _ => none) (fun _ K_65 v1 v2 v3 v4 v5 v6 i_this f_this_row => (if (7 : Int32) ≤ v6 then (gi v2 8 (gi v1 8 (if (f_this_dayAt v1.toNatClampNeg) ≤ (f_this_dayAt v2.toNatClampNeg) then (some (v5, i_this, f_this_row)) else (some ((-v5), i_this, f_this_row))))) else (nm ((((v4 + (6 : Int32)) - v6) / (7 : Int32)) - (((v3 + (6 : Int32)) - v6) / (7 : Int32))) fun z5 => (bd2 (fX10_tell N z5.toInt64 i_this j_this f_this_row) fun i_this_6 f_this_row_7 => (if (5 : Int32) ≤ v6 then (nm (v5 + (0 : Int32)) fun z10 => (nm (v6 + (1 : Int32)) fun z11 => (K_65 v1 v2 v3 v4 z10 z11 i_this_6 f_this_row_7))) else (nm (v5 + z5) fun z12 => (nm (v6 + (1 : Int32)) fun z13 => (K_65 v1 v2 v3 v4 z12 z13 i_this_6 f_this_row_7)))))))) n
theorem fX10_workdays_l65_s (N : Nat) (j_this : Nat → Int64) (f_this_dayAt : Nat → Int32) (n : Nat) (v1 : Int32) (v2 : Int32) (v3 : Int32) (v4 : Int32) (v5 : Int32) (v6 : Int32) (i_this : Nat → Int32) (f_this_row : Nat → Int64) : fX10_workdays_l65 N j_this f_this_dayAt (n + 1) v1 v2 v3 v4 v5 v6 i_this f_this_row = (if (7 : Int32) ≤ v6 then (gi v2 8 (gi v1 8 (if (f_this_dayAt v1.toNatClampNeg) ≤ (f_this_dayAt v2.toNatClampNeg) then (some (v5, i_this, f_this_row)) else (some ((-v5), i_this, f_this_row))))) else (nm ((((v4 + (6 : Int32)) - v6) / (7 : Int32)) - (((v3 + (6 : Int32)) - v6) / (7 : Int32))) fun z5 => (bd2 (fX10_tell N z5.toInt64 i_this j_this f_this_row) fun i_this_6 f_this_row_7 => (if (5 : Int32) ≤ v6 then (nm (v5 + (0 : Int32)) fun z10 => (nm (v6 + (1 : Int32)) fun z11 => ((fX10_workdays_l65 N j_this f_this_dayAt n) v1 v2 v3 v4 z10 z11 i_this_6 f_this_row_7))) else (nm (v5 + z5) fun z12 => (nm (v6 + (1 : Int32)) fun z13 => ((fX10_workdays_l65 N j_this f_this_dayAt n) v1 v2 v3 v4 z12 z13 i_this_6 f_this_row_7))))))) := rfl
theorem fX10_workdays_l65_0 (N : Nat) (j_this : Nat → Int64) (f_this_dayAt : Nat → Int32) (v1 : Int32) (v2 : Int32) (v3 : Int32) (v4 : Int32) (v5 : Int32) (v6 : Int32) (i_this : Nat → Int32) (f_this_row : Nat → Int64) : fX10_workdays_l65 N j_this f_this_dayAt 0 v1 v2 v3 v4 v5 v6 i_this f_this_row = none := rfl
noncomputable def fX10_workdays (N : Nat) (p1 : Int32) (p2 : Int32) (i_this : Nat → Int32) (j_this : Nat → Int64) (f_this_dayAt : Nat → Int32) (f_this_row : Nat → Int64) : Option (Int32 × (Nat → Int32) × (Nat → Int64)) := (bd1 (fX10_isSlot N p1) fun r14 => (if r14 = (0 : Int32) then (some ((-1 : Int32), (upd i_this 9 (0 : Int32)), f_this_row)) else (bd1 (fX10_isSlot N p2) fun r17 => (if r17 = (0 : Int32) then (some ((-1 : Int32), (upd i_this 9 (0 : Int32)), f_this_row)) else (gi p1 8 (gi p2 8 (nm (if (f_this_dayAt p2.toNatClampNeg) < (f_this_dayAt p1.toNatClampNeg) then (f_this_dayAt p2.toNatClampNeg) else (f_this_dayAt p1.toNatClampNeg)) fun z22 => (gi p1 8 (gi p2 8 (nm (if (f_this_dayAt p1.toNatClampNeg) < (f_this_dayAt p2.toNatClampNeg) then (f_this_dayAt p2.toNatClampNeg) else (f_this_dayAt p1.toNatClampNeg)) fun z25 => (fX10_workdays_l65 N j_this f_this_dayAt N p1 p2 z22 z25 (0 : Int32) (0 : Int32) (upd (upd i_this 9 (0 : Int32)) 8 (0 : Int32)) f_this_row)))))))))))
set_option maxHeartbeats 4000000 in
set_option maxRecDepth 100000 in
theorem kX10_workdays (l : Launch) (dC : Nat → ClassId) (dI : Nat → Nat → Nat) (cI cJ cB : ClassId) (h_this h_this_dayAt h_this_secondAt h_this_spans h_this_kept h_this_text h_this_row h_this_read h_this_many h_this_first h_this_lengths h_this_page : Nat) (N : Nat) (p1 : Int32) (p2 : Int32) (i_this : Nat → Int32) (j_this : Nat → Int64) (f_this_dayAt : Nat → Int32) (f_this_row : Nat → Int64) (r : Int32) (o_i_this : Nat → Int32) (o_f_this_row : Nat → Int64) (hf : fX10_workdays N p1 p2 i_this j_this f_this_dayAt f_this_row = some (r, o_i_this, o_f_this_row)) : MI l yX10_workdays (kws yX10_workdays cX10_workdays 8 (some .int)) (kR 2 45) (dC, dI) (kT cI cJ cB) [.ref h_this, .int p1, .int p2] [cl_X10 h_this h_this_dayAt h_this_secondAt h_this_spans h_this_kept h_this_text h_this_row h_this_read h_this_many h_this_first h_this_lengths h_this_page i_this j_this, (h_this_dayAt, .inl (cI, 8, .inl f_this_dayAt)), (h_this_row, .inl (cJ, 16, .inr (.inl f_this_row)))] [cl_X10 h_this h_this_dayAt h_this_secondAt h_this_spans h_this_kept h_this_text h_this_row h_this_read h_this_many h_this_first h_this_lengths h_this_page o_i_this j_this, (h_this_dayAt, .inl (cI, 8, .inl f_this_dayAt)), (h_this_row, .inl (cJ, 16, .inr (.inl o_f_this_row)))] r := by
  refine MI.of (cc := cX10_workdays) (maxL := 8) (by decide) (Nat.le_of_ble_eq_true rfl) (fun p e s m args below meth c A Q ls KC hN hK hP hD hA hl hEnd => ?_)
  obtain ⟨hx, hb, hml, hown, hts⟩ := KC
  have hown : s.vm.findClass "DateSpansModel" = some m.cls := hown
  have hl : lv_has ls 8 [(0, .ref h_this), (1, .int p1), (2, .int p2)] := hl
  have hS : va_S A s.heap s.heap [] := va_S.rf
  have LP_65 : ∀ n_65 : Nat, ∀ (v1 : Int32) (v2 : Int32) (v3 : Int32) (v4 : Int32) (v5 : Int32) (v6 : Int32) (i_this : Nat → Int32) (f_this_row : Nat → Int64) (ls : Array Slot) (H : Heap) (locs : List Loc), fX10_workdays_l65 N j_this f_this_dayAt n_65 v1 v2 v3 v4 v5 v6 i_this f_this_row = some (r, o_i_this, o_f_this_row) → lv_has ls 8 [(0, .ref h_this), (1, .int v1), (2, .int v2), (3, .int v3), (4, .int v4), (5, .int v5), (6, .int v6)] → va_P (dC, dI) vwCl [cl_X10 h_this h_this_dayAt h_this_secondAt h_this_spans h_this_kept h_this_text h_this_row h_this_read h_this_many h_this_first h_this_lengths h_this_page i_this j_this, (h_this_dayAt, .inl (cI, 8, .inl f_this_dayAt)), (h_this_row, .inl (cJ, 16, .inr (.inl f_this_row)))] H → va_D A [cl_X10 h_this h_this_dayAt h_this_secondAt h_this_spans h_this_kept h_this_text h_this_row h_this_read h_this_many h_this_first h_this_lengths h_this_page i_this j_this, (h_this_dayAt, .inl (cI, 8, .inl f_this_dayAt)), (h_this_row, .inl (cJ, 16, .inr (.inl f_this_row)))] → va_S A s.heap H locs → W p l e (kR 2 45) s m args below meth c H locs 0 0 Q (F0 m 65 ls []) := by
    intro n_65
    induction n_65 with
    | zero =>
      intro v1 v2 v3 v4 v5 v6 i_this f_this_row ls H locs h hl hP hD hS
      rw [fX10_workdays_l65_0] at h; cases h
    | succ n_65 ih_65 =>
      intro v1 v2 v3 v4 v5 v6 i_this f_this_row ls H locs h hl hP hD hS
      rw [fX10_workdays_l65_s] at h
      refine lv_iload hx hb dX10_workdays_65 (lv_at hl 6 rfl) ?_
      refine lv_bipush (v := (7 : Int32)) hx hb dX10_workdays_67 (by decide) ?_
      refine lv_icmp_ge (tgt := 126) hx hb dX10_workdays_69 (by decide) (fun c1 => ?_) (fun c1 => ?_)
      · have h := ite_t c1 h
        refine lv_aload_n hx hb dX10_workdays_126 rfl (lv_at hl 0 rfl) ?_
        refine va_get (D := (dC, dI)) (ci := 9) (v := .ref h_this_dayAt) (C := RX10) (T := TX10) (N := 29) hx hb hts inX10 hown hK hP 0 rfl rfl 0 (by decide) (hts _ (kq q_986 rfl)) (fun _ h9 => h9) rfl dX10_workdays_127 ?_
        refine lv_iload_n hx hb dX10_workdays_130 rfl (lv_at hl 2 rfl) ?_
        obtain ⟨hi2, h⟩ := gi_at h
        refine va_iald hx hb hK hP 1 0 rfl rfl hi2 dX10_workdays_131 ?_
        refine lv_aload_n hx hb dX10_workdays_132 rfl (lv_at hl 0 rfl) ?_
        refine va_get (D := (dC, dI)) (ci := 9) (v := .ref h_this_dayAt) (C := RX10) (T := TX10) (N := 29) hx hb hts inX10 hown hK hP 0 rfl rfl 0 (by decide) (hts _ (kq q_986 rfl)) (fun _ h9 => h9) rfl dX10_workdays_133 ?_
        refine lv_iload_n hx hb dX10_workdays_136 rfl (lv_at hl 1 rfl) ?_
        obtain ⟨hi3, h⟩ := gi_at h
        refine va_iald hx hb hK hP 1 0 rfl rfl hi3 dX10_workdays_137 ?_
        refine lv_icmp_ge (tgt := 147) hx hb dX10_workdays_138 (by decide) (fun c4 => ?_) (fun c4 => ?_)
        · have h := ite_t c4 h
          refine lv_iload hx hb dX10_workdays_147 (lv_at hl 5 rfl) ?_
          obtain ⟨rfl, rfl, rfl⟩ := pj3 h
          exact hEnd _ _ _ _ hP hS dX10_workdays_149 rfl
        have h := ite_f c4 h
        refine lv_iload hx hb dX10_workdays_141 (lv_at hl 5 rfl) ?_
        refine lv_ineg hx hb dX10_workdays_143 ?_
        refine lv_goto (tgt := 149) hx hb dX10_workdays_144 (by decide) ?_
        obtain ⟨rfl, rfl, rfl⟩ := pj3 h
        exact hEnd _ _ _ _ hP hS dX10_workdays_149 rfl
      have h := ite_f c1 h
      refine lv_iload hx hb dX10_workdays_72 (lv_at hl 4 rfl) ?_
      refine lv_bipush (v := (6 : Int32)) hx hb dX10_workdays_74 (by decide) ?_
      refine lv_iadd hx hb dX10_workdays_76 ?_
      refine lv_iload hx hb dX10_workdays_77 (lv_at hl 6 rfl) ?_
      refine lv_isub hx hb dX10_workdays_79 ?_
      refine lv_bipush (v := (7 : Int32)) hx hb dX10_workdays_80 (by decide) ?_
      refine lv_idiv hx hb dX10_workdays_82 (by decide) ?_
      refine lv_iload_n hx hb dX10_workdays_83 rfl (lv_at hl 3 rfl) ?_
      refine lv_bipush (v := (6 : Int32)) hx hb dX10_workdays_84 (by decide) ?_
      refine lv_iadd hx hb dX10_workdays_86 ?_
      refine lv_iload hx hb dX10_workdays_87 (lv_at hl 6 rfl) ?_
      refine lv_isub hx hb dX10_workdays_89 ?_
      refine lv_bipush (v := (7 : Int32)) hx hb dX10_workdays_90 (by decide) ?_
      refine lv_idiv hx hb dX10_workdays_92 (by decide) ?_
      refine lv_isub hx hb dX10_workdays_93 ?_
      refine lv_topi (fun z5 ez5 => ?_)
      have h := nm_at ez5 h
      refine lv_istore (lv' := [(7, .int z5), (0, .ref h_this), (1, .int v1), (2, .int v2), (3, .int v3), (4, .int v4), (5, .int v5), (6, .int v6)]) hx hb dX10_workdays_94 hl (by decide) rfl (fun ls hl => ?_)
      refine lv_aload_n hx hb dX10_workdays_96 rfl (lv_at hl 1 rfl) ?_
      refine lv_iload hx hb dX10_workdays_97 (lv_at hl 0 rfl) ?_
      refine lv_i2l hx hb dX10_workdays_99 rfl ?_
      obtain ⟨i_this_6, f_this_row_7, hc8, h⟩ := bd2_at h
      refine kjV (kV (own := "DateSpansModel") (C := "DateSpansModel") (b := h_this) (As := [.long z5.toInt64]) (rest := []) ⟨hx, hb, hml, hown, hts⟩ (kX10_tell l dC dI cI cJ cB h_this h_this_dayAt h_this_secondAt h_this_spans h_this_kept h_this_text h_this_row h_this_read h_this_many h_this_first h_this_lengths h_this_page N z5.toInt64 i_this j_this f_this_row i_this_6 f_this_row_7 hc8 _) (kgV (kq q_1221 rfl) (kq q_1223 rfl) (kq q_29 rfl) (kq q_66 rfl) (kq q_1224 rfl)) yd_X10_tell ⟨Nat.le_of_ble_eq_true rfl, Nat.le_of_ble_eq_true rfl⟩ hN hK hP hD [0, 2] rfl rfl (ci := 9) rfl rfl rfl rfl rfl hl.1 rfl (lv_room (Nat.le_of_ble_eq_true rfl)) dX10_workdays_100) hP hD hS hA [0, 2] rfl rfl (fun H locs hP hD hS => ?_)
      have hP : va_P (dC, dI) vwCl [cl_X10 h_this h_this_dayAt h_this_secondAt h_this_spans h_this_kept h_this_text h_this_row h_this_read h_this_many h_this_first h_this_lengths h_this_page i_this_6 j_this, (h_this_dayAt, .inl (cI, 8, .inl f_this_dayAt)), (h_this_row, .inl (cJ, 16, .inr (.inl f_this_row_7)))] H := hP
      have hD : va_D A [cl_X10 h_this h_this_dayAt h_this_secondAt h_this_spans h_this_kept h_this_text h_this_row h_this_read h_this_many h_this_first h_this_lengths h_this_page i_this_6 j_this, (h_this_dayAt, .inl (cI, 8, .inl f_this_dayAt)), (h_this_row, .inl (cJ, 16, .inr (.inl f_this_row_7)))] := hD
      refine lv_iload hx hb dX10_workdays_103 (lv_at hl 6 rfl) ?_
      refine lv_iload hx hb dX10_workdays_105 (lv_at hl 7 rfl) ?_
      refine lv_iconst (v := (5 : Int32)) hx hb dX10_workdays_107 (by decide) ?_
      refine lv_icmp_ge (tgt := 116) hx hb dX10_workdays_108 (by decide) (fun c9 => ?_) (fun c9 => ?_)
      · have h := ite_t c9 h
        refine lv_iconst (v := (0 : Int32)) hx hb dX10_workdays_116 (by decide) ?_
        refine lv_iadd hx hb dX10_workdays_117 ?_
        refine lv_topi (fun z10 ez10 => ?_)
        have h := nm_at ez10 h
        refine lv_istore (lv' := [(5, .int z10), (7, .int z5), (0, .ref h_this), (1, .int v1), (2, .int v2), (3, .int v3), (4, .int v4), (6, .int v6)]) hx hb dX10_workdays_118 hl (by decide) rfl (fun ls hl => ?_)
        obtain ⟨z11, ez11⟩ : ∃ y : Int32, y = (v6 + (1 : Int32)) := ⟨_, rfl⟩
        have h := nm_at ez11 h
        refine lv_iinc (v := z11) (lv' := [(6, .int z11), (5, .int z10), (7, .int z5), (0, .ref h_this), (1, .int v1), (2, .int v2), (3, .int v3), (4, .int v4)]) hx hb dX10_workdays_120 hl (k := 7) rfl (by rw [ez11]; rfl) (by decide) rfl (fun ls hl => ?_)
        refine lv_goto (tgt := 65) hx hb dX10_workdays_123 (by decide) ?_
        exact ih_65 _ _ _ _ _ _ _ _ _ _ _ h (lv_sub hl [3, 4, 5, 6, 7, 1, 0] rfl) hP hD hS
      have h := ite_f c9 h
      refine lv_iload hx hb dX10_workdays_111 (lv_at hl 0 rfl) ?_
      refine lv_goto (tgt := 117) hx hb dX10_workdays_113 (by decide) ?_
      refine lv_iadd hx hb dX10_workdays_117 ?_
      refine lv_topi (fun z12 ez12 => ?_)
      have h := nm_at ez12 h
      refine lv_istore (lv' := [(5, .int z12), (7, .int z5), (0, .ref h_this), (1, .int v1), (2, .int v2), (3, .int v3), (4, .int v4), (6, .int v6)]) hx hb dX10_workdays_118 hl (by decide) rfl (fun ls hl => ?_)
      obtain ⟨z13, ez13⟩ : ∃ y : Int32, y = (v6 + (1 : Int32)) := ⟨_, rfl⟩
      have h := nm_at ez13 h
      refine lv_iinc (v := z13) (lv' := [(6, .int z13), (5, .int z12), (7, .int z5), (0, .ref h_this), (1, .int v1), (2, .int v2), (3, .int v3), (4, .int v4)]) hx hb dX10_workdays_120 hl (k := 7) rfl (by rw [ez13]; rfl) (by decide) rfl (fun ls hl => ?_)
      refine lv_goto (tgt := 65) hx hb dX10_workdays_123 (by decide) ?_
      exact ih_65 _ _ _ _ _ _ _ _ _ _ _ h (lv_sub hl [3, 4, 5, 6, 7, 1, 0] rfl) hP hD hS
  have h := hf
  unfold fX10_workdays at h
  refine lv_aload_n hx hb dX10_workdays_0 rfl (lv_at hl 0 rfl) ?_
  refine lv_iconst (v := (0 : Int32)) hx hb dX10_workdays_1 (by decide) ?_
  refine va_put (D := (dC, dI)) (ci := 9) (v := .int (0 : Int32)) (ty := .int) (C := RX10) (T := TX10) (N := 29) hx hb hts inX10 tyX10 tyX10_ok nmX10 hown hK hP hD hS 0 rfl rfl 9 (by decide) (hts _ (kq q_995 rfl)) (fun _ h9 => h9) rfl (by decide +kernel) rfl rfl (Nat.le_of_ble_eq_true rfl) dX10_workdays_2 (fun H locs hP hD hS => ?_)
  have hP : va_P (dC, dI) vwCl [(h_this, .inr (9, [.ref h_this_dayAt, .ref h_this_secondAt, .ref h_this_spans, .ref h_this_kept, .int (i_this 4), .ref h_this_text, .int (i_this 6), .ref h_this_row, .int (i_this 8), .int (0 : Int32), .int (i_this 10), .int (i_this 11), .int (i_this 12), .int (i_this 13), .int (i_this 14), .int (i_this 15), .int (i_this 16), .int (i_this 17), .int (i_this 18), .ref h_this_read, .long (j_this 20), .ref h_this_many, .ref h_this_first, .ref h_this_lengths, .int (i_this 24), .long (j_this 25), .long (j_this 26), .ref h_this_page, .int (i_this 28)])), (h_this_dayAt, .inl (cI, 8, .inl f_this_dayAt)), (h_this_row, .inl (cJ, 16, .inr (.inl f_this_row)))] H := hP
  have hD : va_D A [(h_this, .inr (9, [.ref h_this_dayAt, .ref h_this_secondAt, .ref h_this_spans, .ref h_this_kept, .int (i_this 4), .ref h_this_text, .int (i_this 6), .ref h_this_row, .int (i_this 8), .int (0 : Int32), .int (i_this 10), .int (i_this 11), .int (i_this 12), .int (i_this 13), .int (i_this 14), .int (i_this 15), .int (i_this 16), .int (i_this 17), .int (i_this 18), .ref h_this_read, .long (j_this 20), .ref h_this_many, .ref h_this_first, .ref h_this_lengths, .int (i_this 24), .long (j_this 25), .long (j_this 26), .ref h_this_page, .int (i_this 28)])), (h_this_dayAt, .inl (cI, 8, .inl f_this_dayAt)), (h_this_row, .inl (cJ, 16, .inr (.inl f_this_row)))] := hD
  refine lv_iload_n hx hb dX10_workdays_5 rfl (lv_at hl 1 rfl) ?_
  have hP : va_P (dC, dI) vwCl [cl_X10 h_this h_this_dayAt h_this_secondAt h_this_spans h_this_kept h_this_text h_this_row h_this_read h_this_many h_this_first h_this_lengths h_this_page (upd i_this 9 (0 : Int32)) j_this, (h_this_dayAt, .inl (cI, 8, .inl f_this_dayAt)), (h_this_row, .inl (cJ, 16, .inr (.inl f_this_row)))] H := hP
  have hD : va_D A [cl_X10 h_this h_this_dayAt h_this_secondAt h_this_spans h_this_kept h_this_text h_this_row h_this_read h_this_many h_this_first h_this_lengths h_this_page (upd i_this 9 (0 : Int32)) j_this, (h_this_dayAt, .inl (cI, 8, .inl f_this_dayAt)), (h_this_row, .inl (cJ, 16, .inr (.inl f_this_row)))] := hD
  obtain ⟨r14, hc15, h⟩ := bd1_at h
  refine kjSI (kS0 (own := "DateSpansModel") (As := [.int p1]) (rest := []) ⟨hx, hb, hml, hown, hts⟩ (kX10_isSlot l N p1 r14 hc15) (kgS (kq q_1123 rfl) (kq q_1124 rfl) (kq q_66 rfl) (kq q_1125 rfl)) yd_X10_isSlot ⟨Nat.le_of_ble_eq_true rfl, Nat.le_of_ble_eq_true rfl⟩ rfl rfl hl.1 rfl (lv_room (Nat.le_of_ble_eq_true rfl)) dX10_workdays_6) ?_
  refine lv_if_eq (tgt := 19) hx hb dX10_workdays_9 (by decide) (fun c16 => ?_) (fun c16 => ?_)
  · have h := ite_t c16 h
    refine lv_iconst (v := (-1 : Int32)) hx hb dX10_workdays_19 (by decide) ?_
    obtain ⟨rfl, rfl, rfl⟩ := pj3 h
    exact hEnd _ _ _ _ hP hS dX10_workdays_20 rfl
  have h := ite_f c16 h
  refine lv_iload_n hx hb dX10_workdays_12 rfl (lv_at hl 2 rfl) ?_
  obtain ⟨r17, hc18, h⟩ := bd1_at h
  refine kjSI (kS0 (own := "DateSpansModel") (As := [.int p2]) (rest := []) ⟨hx, hb, hml, hown, hts⟩ (kX10_isSlot l N p2 r17 hc18) (kgS (kq q_1123 rfl) (kq q_1124 rfl) (kq q_66 rfl) (kq q_1125 rfl)) yd_X10_isSlot ⟨Nat.le_of_ble_eq_true rfl, Nat.le_of_ble_eq_true rfl⟩ rfl rfl hl.1 rfl (lv_room (Nat.le_of_ble_eq_true rfl)) dX10_workdays_13) ?_
  refine lv_if_ne (tgt := 21) hx hb dX10_workdays_16 (by decide) (fun c19 => ?_) (fun c19 => ?_)
  · have h := ite_f c19 h
    refine lv_aload_n hx hb dX10_workdays_21 rfl (lv_at hl 0 rfl) ?_
    refine va_get (D := (dC, dI)) (ci := 9) (v := .ref h_this_dayAt) (C := RX10) (T := TX10) (N := 29) hx hb hts inX10 hown hK hP 0 rfl rfl 0 (by decide) (hts _ (kq q_986 rfl)) (fun _ h9 => h9) rfl dX10_workdays_22 ?_
    refine lv_iload_n hx hb dX10_workdays_25 rfl (lv_at hl 1 rfl) ?_
    obtain ⟨hi20, h⟩ := gi_at h
    refine va_iald hx hb hK hP 1 0 rfl rfl hi20 dX10_workdays_26 ?_
    refine lv_aload_n hx hb dX10_workdays_27 rfl (lv_at hl 0 rfl) ?_
    refine va_get (D := (dC, dI)) (ci := 9) (v := .ref h_this_dayAt) (C := RX10) (T := TX10) (N := 29) hx hb hts inX10 hown hK hP 0 rfl rfl 0 (by decide) (hts _ (kq q_986 rfl)) (fun _ h9 => h9) rfl dX10_workdays_28 ?_
    refine lv_iload_n hx hb dX10_workdays_31 rfl (lv_at hl 2 rfl) ?_
    obtain ⟨hi21, h⟩ := gi_at h
    refine va_iald hx hb hK hP 1 0 rfl rfl hi21 dX10_workdays_32 ?_
    refine va_mmin (rest := []) hx hb (hml.trans hl.1.symm) hown (hts _ (kq q_1300 rfl)) (hts _ (kq q_701 rfl)) (hts _ (kq q_72 rfl)) (hts _ (kq q_702 rfl)) (Nat.le_of_ble_eq_true rfl) (Nat.le_of_ble_eq_true rfl) (Nat.zero_le _) (Nat.zero_le _) dX10_workdays_33 ?_
    refine lv_topi (fun z22 ez22 => ?_)
    have h := nm_at ez22 h
    refine lv_istore_n (lv' := [(3, .int z22), (0, .ref h_this), (1, .int p1), (2, .int p2)]) hx hb dX10_workdays_36 rfl hl (by decide) rfl (fun ls hl => ?_)
    refine lv_aload_n hx hb dX10_workdays_37 rfl (lv_at hl 1 rfl) ?_
    refine va_get (D := (dC, dI)) (ci := 9) (v := .ref h_this_dayAt) (C := RX10) (T := TX10) (N := 29) hx hb hts inX10 hown hK hP 0 rfl rfl 0 (by decide) (hts _ (kq q_986 rfl)) (fun _ h9 => h9) rfl dX10_workdays_38 ?_
    refine lv_iload_n hx hb dX10_workdays_41 rfl (lv_at hl 2 rfl) ?_
    obtain ⟨hi23, h⟩ := gi_at h
    refine va_iald hx hb hK hP 1 0 rfl rfl hi23 dX10_workdays_42 ?_
    refine lv_aload_n hx hb dX10_workdays_43 rfl (lv_at hl 1 rfl) ?_
    refine va_get (D := (dC, dI)) (ci := 9) (v := .ref h_this_dayAt) (C := RX10) (T := TX10) (N := 29) hx hb hts inX10 hown hK hP 0 rfl rfl 0 (by decide) (hts _ (kq q_986 rfl)) (fun _ h9 => h9) rfl dX10_workdays_44 ?_
    refine lv_iload_n hx hb dX10_workdays_47 rfl (lv_at hl 3 rfl) ?_
    obtain ⟨hi24, h⟩ := gi_at h
    refine va_iald hx hb hK hP 1 0 rfl rfl hi24 dX10_workdays_48 ?_
    refine va_mmax (rest := []) hx hb (hml.trans hl.1.symm) hown (hts _ (kq q_1299 rfl)) (hts _ (kq q_569 rfl)) (hts _ (kq q_72 rfl)) (hts _ (kq q_570 rfl)) (Nat.le_of_ble_eq_true rfl) (Nat.le_of_ble_eq_true rfl) (Nat.zero_le _) (Nat.zero_le _) dX10_workdays_49 ?_
    refine lv_topi (fun z25 ez25 => ?_)
    have h := nm_at ez25 h
    refine lv_istore (lv' := [(4, .int z25), (3, .int z22), (0, .ref h_this), (1, .int p1), (2, .int p2)]) hx hb dX10_workdays_52 hl (by decide) rfl (fun ls hl => ?_)
    refine lv_iconst (v := (0 : Int32)) hx hb dX10_workdays_54 (by decide) ?_
    refine lv_istore (lv' := [(5, .int (0 : Int32)), (4, .int z25), (3, .int z22), (0, .ref h_this), (1, .int p1), (2, .int p2)]) hx hb dX10_workdays_55 hl (by decide) rfl (fun ls hl => ?_)
    refine lv_aload_n hx hb dX10_workdays_57 rfl (lv_at hl 3 rfl) ?_
    refine lv_iconst (v := (0 : Int32)) hx hb dX10_workdays_58 (by decide) ?_
    refine va_put (D := (dC, dI)) (ci := 9) (v := .int (0 : Int32)) (ty := .int) (C := RX10) (T := TX10) (N := 29) hx hb hts inX10 tyX10 tyX10_ok nmX10 hown hK hP hD hS 0 rfl rfl 8 (by decide) (hts _ (kq q_994 rfl)) (fun _ h9 => h9) rfl (by decide +kernel) rfl rfl (Nat.le_of_ble_eq_true rfl) dX10_workdays_59 (fun H locs hP hD hS => ?_)
    have hP : va_P (dC, dI) vwCl [(h_this, .inr (9, [.ref h_this_dayAt, .ref h_this_secondAt, .ref h_this_spans, .ref h_this_kept, .int ((upd i_this 9 (0 : Int32)) 4), .ref h_this_text, .int ((upd i_this 9 (0 : Int32)) 6), .ref h_this_row, .int (0 : Int32), .int ((upd i_this 9 (0 : Int32)) 9), .int ((upd i_this 9 (0 : Int32)) 10), .int ((upd i_this 9 (0 : Int32)) 11), .int ((upd i_this 9 (0 : Int32)) 12), .int ((upd i_this 9 (0 : Int32)) 13), .int ((upd i_this 9 (0 : Int32)) 14), .int ((upd i_this 9 (0 : Int32)) 15), .int ((upd i_this 9 (0 : Int32)) 16), .int ((upd i_this 9 (0 : Int32)) 17), .int ((upd i_this 9 (0 : Int32)) 18), .ref h_this_read, .long (j_this 20), .ref h_this_many, .ref h_this_first, .ref h_this_lengths, .int ((upd i_this 9 (0 : Int32)) 24), .long (j_this 25), .long (j_this 26), .ref h_this_page, .int ((upd i_this 9 (0 : Int32)) 28)])), (h_this_dayAt, .inl (cI, 8, .inl f_this_dayAt)), (h_this_row, .inl (cJ, 16, .inr (.inl f_this_row)))] H := hP
    have hD : va_D A [(h_this, .inr (9, [.ref h_this_dayAt, .ref h_this_secondAt, .ref h_this_spans, .ref h_this_kept, .int ((upd i_this 9 (0 : Int32)) 4), .ref h_this_text, .int ((upd i_this 9 (0 : Int32)) 6), .ref h_this_row, .int (0 : Int32), .int ((upd i_this 9 (0 : Int32)) 9), .int ((upd i_this 9 (0 : Int32)) 10), .int ((upd i_this 9 (0 : Int32)) 11), .int ((upd i_this 9 (0 : Int32)) 12), .int ((upd i_this 9 (0 : Int32)) 13), .int ((upd i_this 9 (0 : Int32)) 14), .int ((upd i_this 9 (0 : Int32)) 15), .int ((upd i_this 9 (0 : Int32)) 16), .int ((upd i_this 9 (0 : Int32)) 17), .int ((upd i_this 9 (0 : Int32)) 18), .ref h_this_read, .long (j_this 20), .ref h_this_many, .ref h_this_first, .ref h_this_lengths, .int ((upd i_this 9 (0 : Int32)) 24), .long (j_this 25), .long (j_this 26), .ref h_this_page, .int ((upd i_this 9 (0 : Int32)) 28)])), (h_this_dayAt, .inl (cI, 8, .inl f_this_dayAt)), (h_this_row, .inl (cJ, 16, .inr (.inl f_this_row)))] := hD
    refine lv_iconst (v := (0 : Int32)) hx hb dX10_workdays_62 (by decide) ?_
    refine lv_istore (lv' := [(6, .int (0 : Int32)), (5, .int (0 : Int32)), (4, .int z25), (3, .int z22), (0, .ref h_this), (1, .int p1), (2, .int p2)]) hx hb dX10_workdays_63 hl (by decide) rfl (fun ls hl => ?_)
    have hP : va_P (dC, dI) vwCl [cl_X10 h_this h_this_dayAt h_this_secondAt h_this_spans h_this_kept h_this_text h_this_row h_this_read h_this_many h_this_first h_this_lengths h_this_page (upd (upd i_this 9 (0 : Int32)) 8 (0 : Int32)) j_this, (h_this_dayAt, .inl (cI, 8, .inl f_this_dayAt)), (h_this_row, .inl (cJ, 16, .inr (.inl f_this_row)))] H := hP
    have hD : va_D A [cl_X10 h_this h_this_dayAt h_this_secondAt h_this_spans h_this_kept h_this_text h_this_row h_this_read h_this_many h_this_first h_this_lengths h_this_page (upd (upd i_this 9 (0 : Int32)) 8 (0 : Int32)) j_this, (h_this_dayAt, .inl (cI, 8, .inl f_this_dayAt)), (h_this_row, .inl (cJ, 16, .inr (.inl f_this_row)))] := hD
    exact LP_65 N _ _ _ _ _ _ _ _ _ _ _ h (lv_sub hl [4, 5, 6, 3, 2, 1, 0] rfl) hP hD hS
  have h := ite_t c19 h
  refine lv_iconst (v := (-1 : Int32)) hx hb dX10_workdays_19 (by decide) ?_
  obtain ⟨rfl, rfl, rfl⟩ := pj3 h
  exact hEnd _ _ _ _ hP hS dX10_workdays_20 rfl
noncomputable def fX10_shifts_j70 (N : Nat) (j_this : Nat → Int64) (K_54 : Int32 → Int32 → Int32 → Int32 → Int32 → Int32 → (Nat → Int32) → (Nat → Int32) → (Nat → Int32) → (Nat → Int64) → Option (Int32 × (Nat → Int32) × (Nat → Int32) × (Nat → Int32) × (Nat → Int64))) (v1 : Int32) (v2 : Int32) (v3 : Int32) (v5 : Int32) (v6 : Int32) (t0 : Int32) (t1 : Int32) (i_this : Nat → Int32) (f_this_dayAt : Nat → Int32) (f_this_secondAt : Nat → Int32) (f_this_row : Nat → Int64) : Option (Int32 × (Nat → Int32) × (Nat → Int32) × (Nat → Int32) × (Nat → Int64)) := (nm (t1 + t0) fun z1 => (bd1 (fX10_isDay N z1.toInt64) fun r2 => (if r2 = (0 : Int32) then (some ((-2 : Int32), i_this, f_this_dayAt, f_this_secondAt, f_this_row)) else (if (5 : Int32) ≤ (z1 - z1 / (7 : Int32) * (7 : Int32)) then (nm (v6 + (1 : Int32)) fun z6 => (K_54 v1 v2 v3 z1 v5 z6 i_this f_this_dayAt f_this_secondAt f_this_row)) else (nm (v5 + (-1 : Int32)) fun z7 => (K_54 v1 v2 v3 z1 z7 v6 i_this f_this_dayAt f_this_secondAt f_this_row))))))
noncomputable def fX10_shifts_l54 (N : Nat) (j_this : Nat → Int64) (n : Nat) : Int32 → Int32 → Int32 → Int32 → Int32 → Int32 → (Nat → Int32) → (Nat → Int32) → (Nat → Int32) → (Nat → Int64) → Option (Int32 × (Nat → Int32) × (Nat → Int32) × (Nat → Int32) × (Nat → Int64)) := Nat.rec (motive := fun _ => Int32 → Int32 → Int32 → Int32 → Int32 → Int32 → (Nat → Int32) → (Nat → Int32) → (Nat → Int32) → (Nat → Int64) → Option (Int32 × (Nat → Int32) × (Nat → Int32) × (Nat → Int32) × (Nat → Int64))) (fun _ _ _ _ _ _ _ _ _ _ => none) (fun _ K_54 v1 v2 v3 v4 v5 v6 i_this f_this_dayAt f_this_secondAt f_this_row => (if v5 ≤ (0 : Int32) then (gi v1 8 (bd1 (fX10_stands N v4 (f_this_secondAt v1.toNatClampNeg) i_this j_this) fun i_this_10 => (bd2 (fX10_comesTo N v3 i_this_10 j_this f_this_dayAt f_this_secondAt) fun f_this_dayAt_12 f_this_secondAt_13 => (bd2 (fX10_tell N v6.toInt64 (upd i_this_10 8 (0 : Int32)) j_this f_this_row) fun i_this_15 f_this_row_16 => (some (v4, i_this_15, f_this_dayAt_12, f_this_secondAt_13, f_this_row_16)))))) else (if (0 : Int32) ≤ v2 then (fX10_shifts_j70 N j_this K_54 v1 v2 v3 v5 v6 (1 : Int32) v4 i_this f_this_dayAt f_this_secondAt f_this_row) else (fX10_shifts_j70 N j_this K_54 v1 v2 v3 v5 v6 (-1 : Int32) v4 i_this f_this_dayAt f_this_secondAt f_this_row)))) n
theorem fX10_shifts_l54_s (N : Nat) (j_this : Nat → Int64) (n : Nat) (v1 : Int32) (v2 : Int32) (v3 : Int32) (v4 : Int32) (v5 : Int32) (v6 : Int32) (i_this : Nat → Int32) (f_this_dayAt : Nat → Int32) (f_this_secondAt : Nat → Int32) (f_this_row : Nat → Int64) : fX10_shifts_l54 N j_this (n + 1) v1 v2 v3 v4 v5 v6 i_this f_this_dayAt f_this_secondAt f_this_row = (if v5 ≤ (0 : Int32) then (gi v1 8 (bd1 (fX10_stands N v4 (f_this_secondAt v1.toNatClampNeg) i_this j_this) fun i_this_10 => (bd2 (fX10_comesTo N v3 i_this_10 j_this f_this_dayAt f_this_secondAt) fun f_this_dayAt_12 f_this_secondAt_13 => (bd2 (fX10_tell N v6.toInt64 (upd i_this_10 8 (0 : Int32)) j_this f_this_row) fun i_this_15 f_this_row_16 => (some (v4, i_this_15, f_this_dayAt_12, f_this_secondAt_13, f_this_row_16)))))) else (if (0 : Int32) ≤ v2 then (fX10_shifts_j70 N j_this (fX10_shifts_l54 N j_this n) v1 v2 v3 v5 v6 (1 : Int32) v4 i_this f_this_dayAt f_this_secondAt f_this_row) else (fX10_shifts_j70 N j_this (fX10_shifts_l54 N j_this n) v1 v2 v3 v5 v6 (-1 : Int32) v4 i_this f_this_dayAt f_this_secondAt f_this_row))) := rfl
theorem fX10_shifts_l54_0 (N : Nat) (j_this : Nat → Int64) (v1 : Int32) (v2 : Int32) (v3 : Int32) (v4 : Int32) (v5 : Int32) (v6 : Int32) (i_this : Nat → Int32) (f_this_dayAt : Nat → Int32) (f_this_secondAt : Nat → Int32) (f_this_row : Nat → Int64) : fX10_shifts_l54 N j_this 0 v1 v2 v3 v4 v5 v6 i_this f_this_dayAt f_this_secondAt f_this_row = none := rfl
noncomputable def fX10_shifts (N : Nat) (p1 : Int32) (p2 : Int32) (p3 : Int32) (i_this : Nat → Int32) (j_this : Nat → Int64) (f_this_dayAt : Nat → Int32) (f_this_secondAt : Nat → Int32) (f_this_row : Nat → Int64) : Option (Int32 × (Nat → Int32) × (Nat → Int32) × (Nat → Int32) × (Nat → Int64)) := (bd1 (fX10_isSlot N p1) fun r19 => (if r19 = (0 : Int32) then (some ((-1 : Int32), (upd i_this 9 (0 : Int32)), f_this_dayAt, f_this_secondAt, f_this_row)) else (bd1 (fX10_in N p2.toInt64 (-10000 : Int64) (10000 : Int64)) fun r22 => (if r22 = (0 : Int32) then (some ((-1 : Int32), (upd i_this 9 (0 : Int32)), f_this_dayAt, f_this_secondAt, f_this_row)) else (bd1 (fX10_isSlot N p3) fun r25 => (if r25 = (0 : Int32) then (some ((-1 : Int32), (upd i_this 9 (0 : Int32)), f_this_dayAt, f_this_secondAt, f_this_row)) else (gi p1 8 (nm (f_this_dayAt p1.toNatClampNeg) fun z29 => (bd1 (fX10_sizeOf N p2.toInt64) fun r30 => (nm r30.toInt32 fun z32 => (fX10_shifts_l54 N j_this N p1 p2 p3 z29 z32 (0 : Int32) (upd i_this 9 (0 : Int32)) f_this_dayAt f_this_secondAt f_this_row)))))))))))
set_option maxHeartbeats 4000000 in
set_option maxRecDepth 100000 in
theorem kX10_shifts (l : Launch) (dC : Nat → ClassId) (dI : Nat → Nat → Nat) (cI cJ cB : ClassId) (h_this h_this_dayAt h_this_secondAt h_this_spans h_this_kept h_this_text h_this_row h_this_read h_this_many h_this_first h_this_lengths h_this_page : Nat) (N : Nat) (p1 : Int32) (p2 : Int32) (p3 : Int32) (i_this : Nat → Int32) (j_this : Nat → Int64) (f_this_dayAt : Nat → Int32) (f_this_secondAt : Nat → Int32) (f_this_row : Nat → Int64) (r : Int32) (o_i_this : Nat → Int32) (o_f_this_dayAt : Nat → Int32) (o_f_this_secondAt : Nat → Int32) (o_f_this_row : Nat → Int64) (hf : fX10_shifts N p1 p2 p3 i_this j_this f_this_dayAt f_this_secondAt f_this_row = some (r, o_i_this, o_f_this_dayAt, o_f_this_secondAt, o_f_this_row)) : MI l yX10_shifts (kws yX10_shifts cX10_shifts 7 (some .int)) (kR 2 46) (dC, dI) (kT cI cJ cB) [.ref h_this, .int p1, .int p2, .int p3] [cl_X10 h_this h_this_dayAt h_this_secondAt h_this_spans h_this_kept h_this_text h_this_row h_this_read h_this_many h_this_first h_this_lengths h_this_page i_this j_this, (h_this_dayAt, .inl (cI, 8, .inl f_this_dayAt)), (h_this_secondAt, .inl (cI, 8, .inl f_this_secondAt)), (h_this_row, .inl (cJ, 16, .inr (.inl f_this_row)))] [cl_X10 h_this h_this_dayAt h_this_secondAt h_this_spans h_this_kept h_this_text h_this_row h_this_read h_this_many h_this_first h_this_lengths h_this_page o_i_this j_this, (h_this_dayAt, .inl (cI, 8, .inl o_f_this_dayAt)), (h_this_secondAt, .inl (cI, 8, .inl o_f_this_secondAt)), (h_this_row, .inl (cJ, 16, .inr (.inl o_f_this_row)))] r := by
  refine MI.of (cc := cX10_shifts) (maxL := 7) (by decide) (Nat.le_of_ble_eq_true rfl) (fun p e s m args below meth c A Q ls KC hN hK hP hD hA hl hEnd => ?_)
  obtain ⟨hx, hb, hml, hown, hts⟩ := KC
  have hown : s.vm.findClass "DateSpansModel" = some m.cls := hown
  have hl : lv_has ls 7 [(0, .ref h_this), (1, .int p1), (2, .int p2), (3, .int p3)] := hl
  have hS : va_S A s.heap s.heap [] := va_S.rf
  have LP_54 : ∀ n_54 : Nat, ∀ (v1 : Int32) (v2 : Int32) (v3 : Int32) (v4 : Int32) (v5 : Int32) (v6 : Int32) (i_this : Nat → Int32) (f_this_dayAt : Nat → Int32) (f_this_secondAt : Nat → Int32) (f_this_row : Nat → Int64) (ls : Array Slot) (H : Heap) (locs : List Loc), fX10_shifts_l54 N j_this n_54 v1 v2 v3 v4 v5 v6 i_this f_this_dayAt f_this_secondAt f_this_row = some (r, o_i_this, o_f_this_dayAt, o_f_this_secondAt, o_f_this_row) → lv_has ls 7 [(0, .ref h_this), (1, .int v1), (2, .int v2), (3, .int v3), (4, .int v4), (5, .int v5), (6, .int v6)] → va_P (dC, dI) vwCl [cl_X10 h_this h_this_dayAt h_this_secondAt h_this_spans h_this_kept h_this_text h_this_row h_this_read h_this_many h_this_first h_this_lengths h_this_page i_this j_this, (h_this_dayAt, .inl (cI, 8, .inl f_this_dayAt)), (h_this_secondAt, .inl (cI, 8, .inl f_this_secondAt)), (h_this_row, .inl (cJ, 16, .inr (.inl f_this_row)))] H → va_D A [cl_X10 h_this h_this_dayAt h_this_secondAt h_this_spans h_this_kept h_this_text h_this_row h_this_read h_this_many h_this_first h_this_lengths h_this_page i_this j_this, (h_this_dayAt, .inl (cI, 8, .inl f_this_dayAt)), (h_this_secondAt, .inl (cI, 8, .inl f_this_secondAt)), (h_this_row, .inl (cJ, 16, .inr (.inl f_this_row)))] → va_S A s.heap H locs → W p l e (kR 2 46) s m args below meth c H locs 0 0 Q (F0 m 54 ls []) := by
    intro n_54
    induction n_54 with
    | zero =>
      intro v1 v2 v3 v4 v5 v6 i_this f_this_dayAt f_this_secondAt f_this_row ls H locs h hl hP hD hS
      rw [fX10_shifts_l54_0] at h; cases h
    | succ n_54 ih_54 =>
      have JN_70 : ∀ (v1 : Int32) (v2 : Int32) (v3 : Int32) (v5 : Int32) (v6 : Int32) (t0 : Int32) (t1 : Int32) (i_this : Nat → Int32) (f_this_dayAt : Nat → Int32) (f_this_secondAt : Nat → Int32) (f_this_row : Nat → Int64) (ls : Array Slot) (H : Heap) (locs : List Loc), (fX10_shifts_j70 N j_this (fX10_shifts_l54 N j_this n_54)) v1 v2 v3 v5 v6 t0 t1 i_this f_this_dayAt f_this_secondAt f_this_row = some (r, o_i_this, o_f_this_dayAt, o_f_this_secondAt, o_f_this_row) → lv_has ls 7 [(0, .ref h_this), (1, .int v1), (2, .int v2), (3, .int v3), (5, .int v5), (6, .int v6)] → va_P (dC, dI) vwCl [cl_X10 h_this h_this_dayAt h_this_secondAt h_this_spans h_this_kept h_this_text h_this_row h_this_read h_this_many h_this_first h_this_lengths h_this_page i_this j_this, (h_this_dayAt, .inl (cI, 8, .inl f_this_dayAt)), (h_this_secondAt, .inl (cI, 8, .inl f_this_secondAt)), (h_this_row, .inl (cJ, 16, .inr (.inl f_this_row)))] H → va_D A [cl_X10 h_this h_this_dayAt h_this_secondAt h_this_spans h_this_kept h_this_text h_this_row h_this_read h_this_many h_this_first h_this_lengths h_this_page i_this j_this, (h_this_dayAt, .inl (cI, 8, .inl f_this_dayAt)), (h_this_secondAt, .inl (cI, 8, .inl f_this_secondAt)), (h_this_row, .inl (cJ, 16, .inr (.inl f_this_row)))] → va_S A s.heap H locs → W p l e (kR 2 46) s m args below meth c H locs 0 0 Q (F0 m 70 ls [.int t0, .int t1]) := by
        intro v1 v2 v3 v5 v6 t0 t1 i_this f_this_dayAt f_this_secondAt f_this_row ls H locs h hl hP hD hS
        unfold fX10_shifts_j70 at h
        refine lv_iadd hx hb dX10_shifts_70 ?_
        refine lv_topi (fun z1 ez1 => ?_)
        have h := nm_at ez1 h
        refine lv_istore (lv' := [(4, .int z1), (0, .ref h_this), (1, .int v1), (2, .int v2), (3, .int v3), (5, .int v5), (6, .int v6)]) hx hb dX10_shifts_71 hl (by decide) rfl (fun ls hl => ?_)
        refine lv_iload hx hb dX10_shifts_73 (lv_at hl 0 rfl) ?_
        refine lv_i2l hx hb dX10_shifts_75 rfl ?_
        obtain ⟨r2, hc3, h⟩ := bd1_at h
        refine kjSI (kS0 (own := "DateSpansModel") (As := [.long z1.toInt64]) (rest := []) ⟨hx, hb, hml, hown, hts⟩ (kX10_isDay l N z1.toInt64 r2 hc3) (kgS (kq q_1148 rfl) (kq q_1149 rfl) (kq q_66 rfl) (kq q_1150 rfl)) yd_X10_isDay ⟨Nat.le_of_ble_eq_true rfl, Nat.le_of_ble_eq_true rfl⟩ rfl rfl hl.1 rfl (lv_room (Nat.le_of_ble_eq_true rfl)) dX10_shifts_76) ?_
        refine lv_if_ne (tgt := 85) hx hb dX10_shifts_79 (by decide) (fun c4 => ?_) (fun c4 => ?_)
        · have h := ite_f c4 h
          refine lv_iload hx hb dX10_shifts_85 (lv_at hl 0 rfl) ?_
          refine lv_bipush (v := (7 : Int32)) hx hb dX10_shifts_87 (by decide) ?_
          refine lv_irem hx hb dX10_shifts_89 (by decide) ?_
          refine lv_iconst (v := (5 : Int32)) hx hb dX10_shifts_90 (by decide) ?_
          refine lv_icmp_ge (tgt := 100) hx hb dX10_shifts_91 (by decide) (fun c5 => ?_) (fun c5 => ?_)
          · have h := ite_t c5 h
            obtain ⟨z6, ez6⟩ : ∃ y : Int32, y = (v6 + (1 : Int32)) := ⟨_, rfl⟩
            have h := nm_at ez6 h
            refine lv_iinc (v := z6) (lv' := [(6, .int z6), (4, .int z1), (0, .ref h_this), (1, .int v1), (2, .int v2), (3, .int v3), (5, .int v5)]) hx hb dX10_shifts_100 hl (k := 6) rfl (by rw [ez6]; rfl) (by decide) rfl (fun ls hl => ?_)
            refine lv_goto (tgt := 54) hx hb dX10_shifts_103 (by decide) ?_
            exact ih_54 _ _ _ _ _ _ _ _ _ _ _ _ _ h (lv_sub hl [2, 3, 4, 5, 1, 6, 0] rfl) hP hD hS
          have h := ite_f c5 h
          obtain ⟨z7, ez7⟩ : ∃ y : Int32, y = (v5 + (-1 : Int32)) := ⟨_, rfl⟩
          have h := nm_at ez7 h
          refine lv_iinc (v := z7) (lv' := [(5, .int z7), (4, .int z1), (0, .ref h_this), (1, .int v1), (2, .int v2), (3, .int v3), (6, .int v6)]) hx hb dX10_shifts_94 hl (k := 5) rfl (by rw [ez7]; rfl) (by decide) rfl (fun ls hl => ?_)
          refine lv_goto (tgt := 54) hx hb dX10_shifts_97 (by decide) ?_
          exact ih_54 _ _ _ _ _ _ _ _ _ _ _ _ _ h (lv_sub hl [2, 3, 4, 5, 1, 0, 6] rfl) hP hD hS
        have h := ite_t c4 h
        refine lv_bipush (v := (-2 : Int32)) hx hb dX10_shifts_82 (by decide) ?_
        obtain ⟨rfl, rfl, rfl, rfl, rfl⟩ := pj5 h
        exact hEnd _ _ _ _ hP hS dX10_shifts_84 rfl
      intro v1 v2 v3 v4 v5 v6 i_this f_this_dayAt f_this_secondAt f_this_row ls H locs h hl hP hD hS
      rw [fX10_shifts_l54_s] at h
      refine lv_iload hx hb dX10_shifts_54 (lv_at hl 5 rfl) ?_
      refine lv_if_le (tgt := 106) hx hb dX10_shifts_56 (by decide) (fun c8 => ?_) (fun c8 => ?_)
      · have h := ite_t c8 h
        refine lv_aload_n hx hb dX10_shifts_106 rfl (lv_at hl 0 rfl) ?_
        refine lv_iload hx hb dX10_shifts_107 (lv_at hl 4 rfl) ?_
        refine lv_aload_n hx hb dX10_shifts_109 rfl (lv_at hl 0 rfl) ?_
        refine va_get (D := (dC, dI)) (ci := 9) (v := .ref h_this_secondAt) (C := RX10) (T := TX10) (N := 29) hx hb hts inX10 hown hK hP 0 rfl rfl 1 (by decide) (hts _ (kq q_987 rfl)) (fun _ h9 => h9) rfl dX10_shifts_110 ?_
        refine lv_iload_n hx hb dX10_shifts_113 rfl (lv_at hl 1 rfl) ?_
        obtain ⟨hi9, h⟩ := gi_at h
        refine va_iald hx hb hK hP 2 0 rfl rfl hi9 dX10_shifts_114 ?_
        obtain ⟨i_this_10, hc11, h⟩ := bd1_at h
        refine kjV (kV (own := "DateSpansModel") (C := "DateSpansModel") (b := h_this) (As := [.int v4, .int (f_this_secondAt v1.toNatClampNeg)]) (rest := []) ⟨hx, hb, hml, hown, hts⟩ (kX10_stands l dC dI cI cJ cB h_this h_this_dayAt h_this_secondAt h_this_spans h_this_kept h_this_text h_this_row h_this_read h_this_many h_this_first h_this_lengths h_this_page N v4 (f_this_secondAt v1.toNatClampNeg) i_this j_this i_this_10 hc11 _) (kgV (kq q_1136 rfl) (kq q_1138 rfl) (kq q_24 rfl) (kq q_66 rfl) (kq q_1139 rfl)) yd_X10_stands ⟨Nat.le_of_ble_eq_true rfl, Nat.le_of_ble_eq_true rfl⟩ hN hK hP hD [0] rfl rfl (ci := 9) rfl rfl rfl rfl rfl hl.1 rfl (lv_room (Nat.le_of_ble_eq_true rfl)) dX10_shifts_115) hP hD hS hA [0] rfl rfl (fun H locs hP hD hS => ?_)
        have hP : va_P (dC, dI) vwCl [cl_X10 h_this h_this_dayAt h_this_secondAt h_this_spans h_this_kept h_this_text h_this_row h_this_read h_this_many h_this_first h_this_lengths h_this_page i_this_10 j_this, (h_this_dayAt, .inl (cI, 8, .inl f_this_dayAt)), (h_this_secondAt, .inl (cI, 8, .inl f_this_secondAt)), (h_this_row, .inl (cJ, 16, .inr (.inl f_this_row)))] H := hP
        have hD : va_D A [cl_X10 h_this h_this_dayAt h_this_secondAt h_this_spans h_this_kept h_this_text h_this_row h_this_read h_this_many h_this_first h_this_lengths h_this_page i_this_10 j_this, (h_this_dayAt, .inl (cI, 8, .inl f_this_dayAt)), (h_this_secondAt, .inl (cI, 8, .inl f_this_secondAt)), (h_this_row, .inl (cJ, 16, .inr (.inl f_this_row)))] := hD
        refine lv_aload_n hx hb dX10_shifts_118 rfl (lv_at hl 0 rfl) ?_
        refine lv_iload_n hx hb dX10_shifts_119 rfl (lv_at hl 3 rfl) ?_
        obtain ⟨f_this_dayAt_12, f_this_secondAt_13, hc14, h⟩ := bd2_at h
        refine kjV (kV (own := "DateSpansModel") (C := "DateSpansModel") (b := h_this) (As := [.int v3]) (rest := []) ⟨hx, hb, hml, hown, hts⟩ (kX10_comesTo l dC dI cI cJ cB h_this h_this_dayAt h_this_secondAt h_this_spans h_this_kept h_this_text h_this_row h_this_read h_this_many h_this_first h_this_lengths h_this_page N v3 i_this_10 j_this f_this_dayAt f_this_secondAt f_this_dayAt_12 f_this_secondAt_13 hc14 _) (kgV (kq q_1140 rfl) (kq q_1142 rfl) (kq q_25 rfl) (kq q_66 rfl) (kq q_1143 rfl)) yd_X10_comesTo ⟨Nat.le_of_ble_eq_true rfl, Nat.le_of_ble_eq_true rfl⟩ hN hK hP hD [0, 1, 2] rfl rfl (ci := 9) rfl rfl rfl rfl rfl hl.1 rfl (lv_room (Nat.le_of_ble_eq_true rfl)) dX10_shifts_120) hP hD hS hA [0, 1, 2] rfl rfl (fun H locs hP hD hS => ?_)
        have hP : va_P (dC, dI) vwCl [cl_X10 h_this h_this_dayAt h_this_secondAt h_this_spans h_this_kept h_this_text h_this_row h_this_read h_this_many h_this_first h_this_lengths h_this_page i_this_10 j_this, (h_this_dayAt, .inl (cI, 8, .inl f_this_dayAt_12)), (h_this_secondAt, .inl (cI, 8, .inl f_this_secondAt_13)), (h_this_row, .inl (cJ, 16, .inr (.inl f_this_row)))] H := hP
        have hD : va_D A [cl_X10 h_this h_this_dayAt h_this_secondAt h_this_spans h_this_kept h_this_text h_this_row h_this_read h_this_many h_this_first h_this_lengths h_this_page i_this_10 j_this, (h_this_dayAt, .inl (cI, 8, .inl f_this_dayAt_12)), (h_this_secondAt, .inl (cI, 8, .inl f_this_secondAt_13)), (h_this_row, .inl (cJ, 16, .inr (.inl f_this_row)))] := hD
        refine lv_aload_n hx hb dX10_shifts_123 rfl (lv_at hl 0 rfl) ?_
        refine lv_iconst (v := (0 : Int32)) hx hb dX10_shifts_124 (by decide) ?_
        refine va_put (D := (dC, dI)) (ci := 9) (v := .int (0 : Int32)) (ty := .int) (C := RX10) (T := TX10) (N := 29) hx hb hts inX10 tyX10 tyX10_ok nmX10 hown hK hP hD hS 0 rfl rfl 8 (by decide) (hts _ (kq q_994 rfl)) (fun _ h9 => h9) rfl (by decide +kernel) rfl rfl (Nat.le_of_ble_eq_true rfl) dX10_shifts_125 (fun H locs hP hD hS => ?_)
        have hP : va_P (dC, dI) vwCl [(h_this, .inr (9, [.ref h_this_dayAt, .ref h_this_secondAt, .ref h_this_spans, .ref h_this_kept, .int (i_this_10 4), .ref h_this_text, .int (i_this_10 6), .ref h_this_row, .int (0 : Int32), .int (i_this_10 9), .int (i_this_10 10), .int (i_this_10 11), .int (i_this_10 12), .int (i_this_10 13), .int (i_this_10 14), .int (i_this_10 15), .int (i_this_10 16), .int (i_this_10 17), .int (i_this_10 18), .ref h_this_read, .long (j_this 20), .ref h_this_many, .ref h_this_first, .ref h_this_lengths, .int (i_this_10 24), .long (j_this 25), .long (j_this 26), .ref h_this_page, .int (i_this_10 28)])), (h_this_dayAt, .inl (cI, 8, .inl f_this_dayAt_12)), (h_this_secondAt, .inl (cI, 8, .inl f_this_secondAt_13)), (h_this_row, .inl (cJ, 16, .inr (.inl f_this_row)))] H := hP
        have hD : va_D A [(h_this, .inr (9, [.ref h_this_dayAt, .ref h_this_secondAt, .ref h_this_spans, .ref h_this_kept, .int (i_this_10 4), .ref h_this_text, .int (i_this_10 6), .ref h_this_row, .int (0 : Int32), .int (i_this_10 9), .int (i_this_10 10), .int (i_this_10 11), .int (i_this_10 12), .int (i_this_10 13), .int (i_this_10 14), .int (i_this_10 15), .int (i_this_10 16), .int (i_this_10 17), .int (i_this_10 18), .ref h_this_read, .long (j_this 20), .ref h_this_many, .ref h_this_first, .ref h_this_lengths, .int (i_this_10 24), .long (j_this 25), .long (j_this 26), .ref h_this_page, .int (i_this_10 28)])), (h_this_dayAt, .inl (cI, 8, .inl f_this_dayAt_12)), (h_this_secondAt, .inl (cI, 8, .inl f_this_secondAt_13)), (h_this_row, .inl (cJ, 16, .inr (.inl f_this_row)))] := hD
        refine lv_aload_n hx hb dX10_shifts_128 rfl (lv_at hl 0 rfl) ?_
        refine lv_iload hx hb dX10_shifts_129 (lv_at hl 6 rfl) ?_
        refine lv_i2l hx hb dX10_shifts_131 rfl ?_
        have hP : va_P (dC, dI) vwCl [cl_X10 h_this h_this_dayAt h_this_secondAt h_this_spans h_this_kept h_this_text h_this_row h_this_read h_this_many h_this_first h_this_lengths h_this_page (upd i_this_10 8 (0 : Int32)) j_this, (h_this_dayAt, .inl (cI, 8, .inl f_this_dayAt_12)), (h_this_secondAt, .inl (cI, 8, .inl f_this_secondAt_13)), (h_this_row, .inl (cJ, 16, .inr (.inl f_this_row)))] H := hP
        have hD : va_D A [cl_X10 h_this h_this_dayAt h_this_secondAt h_this_spans h_this_kept h_this_text h_this_row h_this_read h_this_many h_this_first h_this_lengths h_this_page (upd i_this_10 8 (0 : Int32)) j_this, (h_this_dayAt, .inl (cI, 8, .inl f_this_dayAt_12)), (h_this_secondAt, .inl (cI, 8, .inl f_this_secondAt_13)), (h_this_row, .inl (cJ, 16, .inr (.inl f_this_row)))] := hD
        obtain ⟨i_this_15, f_this_row_16, hc17, h⟩ := bd2_at h
        refine kjV (kV (own := "DateSpansModel") (C := "DateSpansModel") (b := h_this) (As := [.long v6.toInt64]) (rest := []) ⟨hx, hb, hml, hown, hts⟩ (kX10_tell l dC dI cI cJ cB h_this h_this_dayAt h_this_secondAt h_this_spans h_this_kept h_this_text h_this_row h_this_read h_this_many h_this_first h_this_lengths h_this_page N v6.toInt64 (upd i_this_10 8 (0 : Int32)) j_this f_this_row i_this_15 f_this_row_16 hc17 _) (kgV (kq q_1221 rfl) (kq q_1223 rfl) (kq q_29 rfl) (kq q_66 rfl) (kq q_1224 rfl)) yd_X10_tell ⟨Nat.le_of_ble_eq_true rfl, Nat.le_of_ble_eq_true rfl⟩ hN hK hP hD [0, 3] rfl rfl (ci := 9) rfl rfl rfl rfl rfl hl.1 rfl (lv_room (Nat.le_of_ble_eq_true rfl)) dX10_shifts_132) hP hD hS hA [0, 3] rfl rfl (fun H locs hP hD hS => ?_)
        have hP : va_P (dC, dI) vwCl [cl_X10 h_this h_this_dayAt h_this_secondAt h_this_spans h_this_kept h_this_text h_this_row h_this_read h_this_many h_this_first h_this_lengths h_this_page i_this_15 j_this, (h_this_dayAt, .inl (cI, 8, .inl f_this_dayAt_12)), (h_this_secondAt, .inl (cI, 8, .inl f_this_secondAt_13)), (h_this_row, .inl (cJ, 16, .inr (.inl f_this_row_16)))] H := hP
        have hD : va_D A [cl_X10 h_this h_this_dayAt h_this_secondAt h_this_spans h_this_kept h_this_text h_this_row h_this_read h_this_many h_this_first h_this_lengths h_this_page i_this_15 j_this, (h_this_dayAt, .inl (cI, 8, .inl f_this_dayAt_12)), (h_this_secondAt, .inl (cI, 8, .inl f_this_secondAt_13)), (h_this_row, .inl (cJ, 16, .inr (.inl f_this_row_16)))] := hD
        refine lv_iload hx hb dX10_shifts_135 (lv_at hl 4 rfl) ?_
        obtain ⟨rfl, rfl, rfl, rfl, rfl⟩ := pj5 h
        exact hEnd _ _ _ _ hP hS dX10_shifts_137 rfl
      have h := ite_f c8 h
      refine lv_iload hx hb dX10_shifts_59 (lv_at hl 4 rfl) ?_
      refine lv_iload_n hx hb dX10_shifts_61 rfl (lv_at hl 2 rfl) ?_
      refine lv_if_ge (tgt := 69) hx hb dX10_shifts_62 (by decide) (fun c18 => ?_) (fun c18 => ?_)
      · have h := ite_t c18 h
        refine lv_iconst (v := (1 : Int32)) hx hb dX10_shifts_69 (by decide) ?_
        exact JN_70 _ _ _ _ _ _ _ _ _ _ _ _ _ _ h (lv_sub hl [0, 1, 2, 3, 5, 6] rfl) hP hD hS
      have h := ite_f c18 h
      refine lv_iconst (v := (-1 : Int32)) hx hb dX10_shifts_65 (by decide) ?_
      refine lv_goto (tgt := 70) hx hb dX10_shifts_66 (by decide) ?_
      exact JN_70 _ _ _ _ _ _ _ _ _ _ _ _ _ _ h (lv_sub hl [0, 1, 2, 3, 5, 6] rfl) hP hD hS
  have h := hf
  unfold fX10_shifts at h
  refine lv_aload_n hx hb dX10_shifts_0 rfl (lv_at hl 0 rfl) ?_
  refine lv_iconst (v := (0 : Int32)) hx hb dX10_shifts_1 (by decide) ?_
  refine va_put (D := (dC, dI)) (ci := 9) (v := .int (0 : Int32)) (ty := .int) (C := RX10) (T := TX10) (N := 29) hx hb hts inX10 tyX10 tyX10_ok nmX10 hown hK hP hD hS 0 rfl rfl 9 (by decide) (hts _ (kq q_995 rfl)) (fun _ h9 => h9) rfl (by decide +kernel) rfl rfl (Nat.le_of_ble_eq_true rfl) dX10_shifts_2 (fun H locs hP hD hS => ?_)
  have hP : va_P (dC, dI) vwCl [(h_this, .inr (9, [.ref h_this_dayAt, .ref h_this_secondAt, .ref h_this_spans, .ref h_this_kept, .int (i_this 4), .ref h_this_text, .int (i_this 6), .ref h_this_row, .int (i_this 8), .int (0 : Int32), .int (i_this 10), .int (i_this 11), .int (i_this 12), .int (i_this 13), .int (i_this 14), .int (i_this 15), .int (i_this 16), .int (i_this 17), .int (i_this 18), .ref h_this_read, .long (j_this 20), .ref h_this_many, .ref h_this_first, .ref h_this_lengths, .int (i_this 24), .long (j_this 25), .long (j_this 26), .ref h_this_page, .int (i_this 28)])), (h_this_dayAt, .inl (cI, 8, .inl f_this_dayAt)), (h_this_secondAt, .inl (cI, 8, .inl f_this_secondAt)), (h_this_row, .inl (cJ, 16, .inr (.inl f_this_row)))] H := hP
  have hD : va_D A [(h_this, .inr (9, [.ref h_this_dayAt, .ref h_this_secondAt, .ref h_this_spans, .ref h_this_kept, .int (i_this 4), .ref h_this_text, .int (i_this 6), .ref h_this_row, .int (i_this 8), .int (0 : Int32), .int (i_this 10), .int (i_this 11), .int (i_this 12), .int (i_this 13), .int (i_this 14), .int (i_this 15), .int (i_this 16), .int (i_this 17), .int (i_this 18), .ref h_this_read, .long (j_this 20), .ref h_this_many, .ref h_this_first, .ref h_this_lengths, .int (i_this 24), .long (j_this 25), .long (j_this 26), .ref h_this_page, .int (i_this 28)])), (h_this_dayAt, .inl (cI, 8, .inl f_this_dayAt)), (h_this_secondAt, .inl (cI, 8, .inl f_this_secondAt)), (h_this_row, .inl (cJ, 16, .inr (.inl f_this_row)))] := hD
  refine lv_iload_n hx hb dX10_shifts_5 rfl (lv_at hl 1 rfl) ?_
  have hP : va_P (dC, dI) vwCl [cl_X10 h_this h_this_dayAt h_this_secondAt h_this_spans h_this_kept h_this_text h_this_row h_this_read h_this_many h_this_first h_this_lengths h_this_page (upd i_this 9 (0 : Int32)) j_this, (h_this_dayAt, .inl (cI, 8, .inl f_this_dayAt)), (h_this_secondAt, .inl (cI, 8, .inl f_this_secondAt)), (h_this_row, .inl (cJ, 16, .inr (.inl f_this_row)))] H := hP
  have hD : va_D A [cl_X10 h_this h_this_dayAt h_this_secondAt h_this_spans h_this_kept h_this_text h_this_row h_this_read h_this_many h_this_first h_this_lengths h_this_page (upd i_this 9 (0 : Int32)) j_this, (h_this_dayAt, .inl (cI, 8, .inl f_this_dayAt)), (h_this_secondAt, .inl (cI, 8, .inl f_this_secondAt)), (h_this_row, .inl (cJ, 16, .inr (.inl f_this_row)))] := hD
  obtain ⟨r19, hc20, h⟩ := bd1_at h
  refine kjSI (kS0 (own := "DateSpansModel") (As := [.int p1]) (rest := []) ⟨hx, hb, hml, hown, hts⟩ (kX10_isSlot l N p1 r19 hc20) (kgS (kq q_1123 rfl) (kq q_1124 rfl) (kq q_66 rfl) (kq q_1125 rfl)) yd_X10_isSlot ⟨Nat.le_of_ble_eq_true rfl, Nat.le_of_ble_eq_true rfl⟩ rfl rfl hl.1 rfl (lv_room (Nat.le_of_ble_eq_true rfl)) dX10_shifts_6) ?_
  refine lv_if_eq (tgt := 33) hx hb dX10_shifts_9 (by decide) (fun c21 => ?_) (fun c21 => ?_)
  · have h := ite_t c21 h
    refine lv_iconst (v := (-1 : Int32)) hx hb dX10_shifts_33 (by decide) ?_
    obtain ⟨rfl, rfl, rfl, rfl, rfl⟩ := pj5 h
    exact hEnd _ _ _ _ hP hS dX10_shifts_34 rfl
  have h := ite_f c21 h
  refine lv_iload_n hx hb dX10_shifts_12 rfl (lv_at hl 2 rfl) ?_
  refine lv_i2l hx hb dX10_shifts_13 rfl ?_
  refine lv_ldc2 (v := (-10000 : Int64)) hx hb hown (hts _ (kq q_1473 rfl)) dX10_shifts_14 ?_
  refine lv_ldc2 (v := (10000 : Int64)) hx hb hown (hts _ (kq q_1314 rfl)) dX10_shifts_17 ?_
  obtain ⟨r22, hc23, h⟩ := bd1_at h
  refine kjSI (kS0 (own := "DateSpansModel") (As := [.long p2.toInt64, .long (-10000 : Int64), .long (10000 : Int64)]) (rest := []) ⟨hx, hb, hml, hown, hts⟩ (kX10_in l N p2.toInt64 (-10000 : Int64) (10000 : Int64) r22 hc23) (kgS (kq q_1086 rfl) (kq q_1087 rfl) (kq q_66 rfl) (kq q_1088 rfl)) yd_X10_in ⟨Nat.le_of_ble_eq_true rfl, Nat.le_of_ble_eq_true rfl⟩ rfl rfl hl.1 rfl (lv_room (Nat.le_of_ble_eq_true rfl)) dX10_shifts_20) ?_
  refine lv_if_eq (tgt := 33) hx hb dX10_shifts_23 (by decide) (fun c24 => ?_) (fun c24 => ?_)
  · have h := ite_t c24 h
    refine lv_iconst (v := (-1 : Int32)) hx hb dX10_shifts_33 (by decide) ?_
    obtain ⟨rfl, rfl, rfl, rfl, rfl⟩ := pj5 h
    exact hEnd _ _ _ _ hP hS dX10_shifts_34 rfl
  have h := ite_f c24 h
  refine lv_iload_n hx hb dX10_shifts_26 rfl (lv_at hl 3 rfl) ?_
  obtain ⟨r25, hc26, h⟩ := bd1_at h
  refine kjSI (kS0 (own := "DateSpansModel") (As := [.int p3]) (rest := []) ⟨hx, hb, hml, hown, hts⟩ (kX10_isSlot l N p3 r25 hc26) (kgS (kq q_1123 rfl) (kq q_1124 rfl) (kq q_66 rfl) (kq q_1125 rfl)) yd_X10_isSlot ⟨Nat.le_of_ble_eq_true rfl, Nat.le_of_ble_eq_true rfl⟩ rfl rfl hl.1 rfl (lv_room (Nat.le_of_ble_eq_true rfl)) dX10_shifts_27) ?_
  refine lv_if_ne (tgt := 35) hx hb dX10_shifts_30 (by decide) (fun c27 => ?_) (fun c27 => ?_)
  · have h := ite_f c27 h
    refine lv_aload_n hx hb dX10_shifts_35 rfl (lv_at hl 0 rfl) ?_
    refine va_get (D := (dC, dI)) (ci := 9) (v := .ref h_this_dayAt) (C := RX10) (T := TX10) (N := 29) hx hb hts inX10 hown hK hP 0 rfl rfl 0 (by decide) (hts _ (kq q_986 rfl)) (fun _ h9 => h9) rfl dX10_shifts_36 ?_
    refine lv_iload_n hx hb dX10_shifts_39 rfl (lv_at hl 1 rfl) ?_
    obtain ⟨hi28, h⟩ := gi_at h
    refine va_iald hx hb hK hP 1 0 rfl rfl hi28 dX10_shifts_40 ?_
    refine lv_topi (fun z29 ez29 => ?_)
    have h := nm_at ez29 h
    refine lv_istore (lv' := [(4, .int z29), (0, .ref h_this), (1, .int p1), (2, .int p2), (3, .int p3)]) hx hb dX10_shifts_41 hl (by decide) rfl (fun ls hl => ?_)
    refine lv_iload_n hx hb dX10_shifts_43 rfl (lv_at hl 3 rfl) ?_
    refine lv_i2l hx hb dX10_shifts_44 rfl ?_
    obtain ⟨r30, hc31, h⟩ := bd1_at h
    refine kjSL (kS0 (own := "DateSpansModel") (As := [.long p2.toInt64]) (rest := []) ⟨hx, hb, hml, hown, hts⟩ (kX10_sizeOf l N p2.toInt64 r30 hc31) (kgS (kq q_1360 rfl) (kq q_1361 rfl) (kq q_66 rfl) (kq q_1362 rfl)) yd_X10_sizeOf ⟨Nat.le_of_ble_eq_true rfl, Nat.le_of_ble_eq_true rfl⟩ rfl rfl hl.1 rfl (lv_room (Nat.le_of_ble_eq_true rfl)) dX10_shifts_45) ?_
    refine lv_l2i hx hb dX10_shifts_48 rfl ?_
    refine lv_topi (fun z32 ez32 => ?_)
    have h := nm_at ez32 h
    refine lv_istore (lv' := [(5, .int z32), (4, .int z29), (0, .ref h_this), (1, .int p1), (2, .int p2), (3, .int p3)]) hx hb dX10_shifts_49 hl (by decide) rfl (fun ls hl => ?_)
    refine lv_iconst (v := (0 : Int32)) hx hb dX10_shifts_51 (by decide) ?_
    refine lv_istore (lv' := [(6, .int (0 : Int32)), (5, .int z32), (4, .int z29), (0, .ref h_this), (1, .int p1), (2, .int p2), (3, .int p3)]) hx hb dX10_shifts_52 hl (by decide) rfl (fun ls hl => ?_)
    exact LP_54 N _ _ _ _ _ _ _ _ _ _ _ _ _ h (lv_sub hl [3, 4, 5, 6, 2, 1, 0] rfl) hP hD hS
  have h := ite_t c27 h
  refine lv_iconst (v := (-1 : Int32)) hx hb dX10_shifts_33 (by decide) ?_
  obtain ⟨rfl, rfl, rfl, rfl, rfl⟩ := pj5 h
  exact hEnd _ _ _ _ hP hS dX10_shifts_34 rfl
noncomputable def fX10_overlaps (N : Nat) (p1 : Int32) (p2 : Int32) (p3 : Int32) (p4 : Int32) (i_this : Nat → Int32) (j_this : Nat → Int64) (f_this_dayAt : Nat → Int32) (f_this_secondAt : Nat → Int32) (f_this_row : Nat → Int64) : Option (Int64 × (Nat → Int32) × (Nat → Int64)) := (bd1 (fX10_isSlot N p1) fun r1 => (if r1 = (0 : Int32) then (some ((-1 : Int64), (upd i_this 9 (0 : Int32)), f_this_row)) else (bd1 (fX10_isSlot N p2) fun r4 => (if r4 = (0 : Int32) then (some ((-1 : Int64), (upd i_this 9 (0 : Int32)), f_this_row)) else (bd1 (fX10_isSlot N p3) fun r7 => (if r7 = (0 : Int32) then (some ((-1 : Int64), (upd i_this 9 (0 : Int32)), f_this_row)) else (bd1 (fX10_isSlot N p4) fun r10 => (if r10 = (0 : Int32) then (some ((-1 : Int64), (upd i_this 9 (0 : Int32)), f_this_row)) else (bd1 (fX10_instantOf N p1 (upd i_this 9 (0 : Int32)) j_this f_this_dayAt f_this_secondAt) fun r13 => (bd1 (fX10_instantOf N p2 (upd i_this 9 (0 : Int32)) j_this f_this_dayAt f_this_secondAt) fun r15 => (nm (if r15 < r13 then r15 else r13) fun z17 => (bd1 (fX10_instantOf N p3 (upd i_this 9 (0 : Int32)) j_this f_this_dayAt f_this_secondAt) fun r18 => (bd1 (fX10_instantOf N p4 (upd i_this 9 (0 : Int32)) j_this f_this_dayAt f_this_secondAt) fun r20 => (nm (if r20 < r18 then r20 else r18) fun z22 => (nm (if z22 < z17 then z17 else z22) fun z23 => (bd1 (fX10_instantOf N p1 (upd i_this 9 (0 : Int32)) j_this f_this_dayAt f_this_secondAt) fun r24 => (bd1 (fX10_instantOf N p2 (upd i_this 9 (0 : Int32)) j_this f_this_dayAt f_this_secondAt) fun r26 => (nm (if r26 < r24 then r24 else r26) fun z28 => (bd1 (fX10_instantOf N p3 (upd i_this 9 (0 : Int32)) j_this f_this_dayAt f_this_secondAt) fun r29 => (bd1 (fX10_instantOf N p4 (upd i_this 9 (0 : Int32)) j_this f_this_dayAt f_this_secondAt) fun r31 => (nm (if r31 < r29 then r29 else r31) fun z33 => (nm (if z33 < z28 then z33 else z28) fun z34 => (bd2 (fX10_tell N z23 (upd (upd i_this 9 (0 : Int32)) 8 (0 : Int32)) j_this f_this_row) fun i_this_35 f_this_row_36 => (nm (if (z23 - z34) < (0 : Int64) then (0 : Int64) else (z23 - z34)) fun z38 => (bd2 (fX10_tell N z38 i_this_35 j_this f_this_row_36) fun i_this_39 f_this_row_40 => (nm (if (z34 - z23) < (0 : Int64) then (0 : Int64) else (z34 - z23)) fun z42 => (some (z42, i_this_39, f_this_row_40))))))))))))))))))))))))))))
set_option maxHeartbeats 4000000 in
set_option maxRecDepth 100000 in
theorem kX10_overlaps (l : Launch) (dC : Nat → ClassId) (dI : Nat → Nat → Nat) (cI cJ cB : ClassId) (h_this h_this_dayAt h_this_secondAt h_this_spans h_this_kept h_this_text h_this_row h_this_read h_this_many h_this_first h_this_lengths h_this_page : Nat) (N : Nat) (p1 : Int32) (p2 : Int32) (p3 : Int32) (p4 : Int32) (i_this : Nat → Int32) (j_this : Nat → Int64) (f_this_dayAt : Nat → Int32) (f_this_secondAt : Nat → Int32) (f_this_row : Nat → Int64) (r : Int64) (o_i_this : Nat → Int32) (o_f_this_row : Nat → Int64) (hf : fX10_overlaps N p1 p2 p3 p4 i_this j_this f_this_dayAt f_this_secondAt f_this_row = some (r, o_i_this, o_f_this_row)) : ML l yX10_overlaps (kws yX10_overlaps cX10_overlaps 9 (some .long)) (kR 2 45) (dC, dI) (kT cI cJ cB) [.ref h_this, .int p1, .int p2, .int p3, .int p4] [cl_X10 h_this h_this_dayAt h_this_secondAt h_this_spans h_this_kept h_this_text h_this_row h_this_read h_this_many h_this_first h_this_lengths h_this_page i_this j_this, (h_this_dayAt, .inl (cI, 8, .inl f_this_dayAt)), (h_this_secondAt, .inl (cI, 8, .inl f_this_secondAt)), (h_this_row, .inl (cJ, 16, .inr (.inl f_this_row)))] [cl_X10 h_this h_this_dayAt h_this_secondAt h_this_spans h_this_kept h_this_text h_this_row h_this_read h_this_many h_this_first h_this_lengths h_this_page o_i_this j_this, (h_this_dayAt, .inl (cI, 8, .inl f_this_dayAt)), (h_this_secondAt, .inl (cI, 8, .inl f_this_secondAt)), (h_this_row, .inl (cJ, 16, .inr (.inl o_f_this_row)))] r := by
  refine ML.of (cc := cX10_overlaps) (maxL := 9) (by decide) (Nat.le_of_ble_eq_true rfl) (fun p e s m args below meth c A Q ls KC hN hK hP hD hA hl hEnd => ?_)
  obtain ⟨hx, hb, hml, hown, hts⟩ := KC
  have hown : s.vm.findClass "DateSpansModel" = some m.cls := hown
  have hl : lv_has ls 9 [(0, .ref h_this), (1, .int p1), (2, .int p2), (3, .int p3), (4, .int p4)] := hl
  have hS : va_S A s.heap s.heap [] := va_S.rf
  have h := hf
  unfold fX10_overlaps at h
  refine lv_aload_n hx hb dX10_overlaps_0 rfl (lv_at hl 0 rfl) ?_
  refine lv_iconst (v := (0 : Int32)) hx hb dX10_overlaps_1 (by decide) ?_
  refine va_put (D := (dC, dI)) (ci := 9) (v := .int (0 : Int32)) (ty := .int) (C := RX10) (T := TX10) (N := 29) hx hb hts inX10 tyX10 tyX10_ok nmX10 hown hK hP hD hS 0 rfl rfl 9 (by decide) (hts _ (kq q_995 rfl)) (fun _ h9 => h9) rfl (by decide +kernel) rfl rfl (Nat.le_of_ble_eq_true rfl) dX10_overlaps_2 (fun H locs hP hD hS => ?_)
  have hP : va_P (dC, dI) vwCl [(h_this, .inr (9, [.ref h_this_dayAt, .ref h_this_secondAt, .ref h_this_spans, .ref h_this_kept, .int (i_this 4), .ref h_this_text, .int (i_this 6), .ref h_this_row, .int (i_this 8), .int (0 : Int32), .int (i_this 10), .int (i_this 11), .int (i_this 12), .int (i_this 13), .int (i_this 14), .int (i_this 15), .int (i_this 16), .int (i_this 17), .int (i_this 18), .ref h_this_read, .long (j_this 20), .ref h_this_many, .ref h_this_first, .ref h_this_lengths, .int (i_this 24), .long (j_this 25), .long (j_this 26), .ref h_this_page, .int (i_this 28)])), (h_this_dayAt, .inl (cI, 8, .inl f_this_dayAt)), (h_this_secondAt, .inl (cI, 8, .inl f_this_secondAt)), (h_this_row, .inl (cJ, 16, .inr (.inl f_this_row)))] H := hP
  have hD : va_D A [(h_this, .inr (9, [.ref h_this_dayAt, .ref h_this_secondAt, .ref h_this_spans, .ref h_this_kept, .int (i_this 4), .ref h_this_text, .int (i_this 6), .ref h_this_row, .int (i_this 8), .int (0 : Int32), .int (i_this 10), .int (i_this 11), .int (i_this 12), .int (i_this 13), .int (i_this 14), .int (i_this 15), .int (i_this 16), .int (i_this 17), .int (i_this 18), .ref h_this_read, .long (j_this 20), .ref h_this_many, .ref h_this_first, .ref h_this_lengths, .int (i_this 24), .long (j_this 25), .long (j_this 26), .ref h_this_page, .int (i_this 28)])), (h_this_dayAt, .inl (cI, 8, .inl f_this_dayAt)), (h_this_secondAt, .inl (cI, 8, .inl f_this_secondAt)), (h_this_row, .inl (cJ, 16, .inr (.inl f_this_row)))] := hD
  refine lv_iload_n hx hb dX10_overlaps_5 rfl (lv_at hl 1 rfl) ?_
  have hP : va_P (dC, dI) vwCl [cl_X10 h_this h_this_dayAt h_this_secondAt h_this_spans h_this_kept h_this_text h_this_row h_this_read h_this_many h_this_first h_this_lengths h_this_page (upd i_this 9 (0 : Int32)) j_this, (h_this_dayAt, .inl (cI, 8, .inl f_this_dayAt)), (h_this_secondAt, .inl (cI, 8, .inl f_this_secondAt)), (h_this_row, .inl (cJ, 16, .inr (.inl f_this_row)))] H := hP
  have hD : va_D A [cl_X10 h_this h_this_dayAt h_this_secondAt h_this_spans h_this_kept h_this_text h_this_row h_this_read h_this_many h_this_first h_this_lengths h_this_page (upd i_this 9 (0 : Int32)) j_this, (h_this_dayAt, .inl (cI, 8, .inl f_this_dayAt)), (h_this_secondAt, .inl (cI, 8, .inl f_this_secondAt)), (h_this_row, .inl (cJ, 16, .inr (.inl f_this_row)))] := hD
  obtain ⟨r1, hc2, h⟩ := bd1_at h
  refine kjSI (kS0 (own := "DateSpansModel") (As := [.int p1]) (rest := []) ⟨hx, hb, hml, hown, hts⟩ (kX10_isSlot l N p1 r1 hc2) (kgS (kq q_1123 rfl) (kq q_1124 rfl) (kq q_66 rfl) (kq q_1125 rfl)) yd_X10_isSlot ⟨Nat.le_of_ble_eq_true rfl, Nat.le_of_ble_eq_true rfl⟩ rfl rfl hl.1 rfl (lv_room (Nat.le_of_ble_eq_true rfl)) dX10_overlaps_6) ?_
  refine lv_if_eq (tgt := 34) hx hb dX10_overlaps_9 (by decide) (fun c3 => ?_) (fun c3 => ?_)
  · have h := ite_t c3 h
    refine lv_ldc2 (v := (-1 : Int64)) hx hb hown (hts _ (kq q_1363 rfl)) dX10_overlaps_34 ?_
    obtain ⟨rfl, rfl, rfl⟩ := pj3 h
    exact hEnd _ _ _ _ hP hS dX10_overlaps_37
  have h := ite_f c3 h
  refine lv_iload_n hx hb dX10_overlaps_12 rfl (lv_at hl 2 rfl) ?_
  obtain ⟨r4, hc5, h⟩ := bd1_at h
  refine kjSI (kS0 (own := "DateSpansModel") (As := [.int p2]) (rest := []) ⟨hx, hb, hml, hown, hts⟩ (kX10_isSlot l N p2 r4 hc5) (kgS (kq q_1123 rfl) (kq q_1124 rfl) (kq q_66 rfl) (kq q_1125 rfl)) yd_X10_isSlot ⟨Nat.le_of_ble_eq_true rfl, Nat.le_of_ble_eq_true rfl⟩ rfl rfl hl.1 rfl (lv_room (Nat.le_of_ble_eq_true rfl)) dX10_overlaps_13) ?_
  refine lv_if_eq (tgt := 34) hx hb dX10_overlaps_16 (by decide) (fun c6 => ?_) (fun c6 => ?_)
  · have h := ite_t c6 h
    refine lv_ldc2 (v := (-1 : Int64)) hx hb hown (hts _ (kq q_1363 rfl)) dX10_overlaps_34 ?_
    obtain ⟨rfl, rfl, rfl⟩ := pj3 h
    exact hEnd _ _ _ _ hP hS dX10_overlaps_37
  have h := ite_f c6 h
  refine lv_iload_n hx hb dX10_overlaps_19 rfl (lv_at hl 3 rfl) ?_
  obtain ⟨r7, hc8, h⟩ := bd1_at h
  refine kjSI (kS0 (own := "DateSpansModel") (As := [.int p3]) (rest := []) ⟨hx, hb, hml, hown, hts⟩ (kX10_isSlot l N p3 r7 hc8) (kgS (kq q_1123 rfl) (kq q_1124 rfl) (kq q_66 rfl) (kq q_1125 rfl)) yd_X10_isSlot ⟨Nat.le_of_ble_eq_true rfl, Nat.le_of_ble_eq_true rfl⟩ rfl rfl hl.1 rfl (lv_room (Nat.le_of_ble_eq_true rfl)) dX10_overlaps_20) ?_
  refine lv_if_eq (tgt := 34) hx hb dX10_overlaps_23 (by decide) (fun c9 => ?_) (fun c9 => ?_)
  · have h := ite_t c9 h
    refine lv_ldc2 (v := (-1 : Int64)) hx hb hown (hts _ (kq q_1363 rfl)) dX10_overlaps_34 ?_
    obtain ⟨rfl, rfl, rfl⟩ := pj3 h
    exact hEnd _ _ _ _ hP hS dX10_overlaps_37
  have h := ite_f c9 h
  refine lv_iload hx hb dX10_overlaps_26 (lv_at hl 4 rfl) ?_
  obtain ⟨r10, hc11, h⟩ := bd1_at h
  refine kjSI (kS0 (own := "DateSpansModel") (As := [.int p4]) (rest := []) ⟨hx, hb, hml, hown, hts⟩ (kX10_isSlot l N p4 r10 hc11) (kgS (kq q_1123 rfl) (kq q_1124 rfl) (kq q_66 rfl) (kq q_1125 rfl)) yd_X10_isSlot ⟨Nat.le_of_ble_eq_true rfl, Nat.le_of_ble_eq_true rfl⟩ rfl rfl hl.1 rfl (lv_room (Nat.le_of_ble_eq_true rfl)) dX10_overlaps_28) ?_
  refine lv_if_ne (tgt := 38) hx hb dX10_overlaps_31 (by decide) (fun c12 => ?_) (fun c12 => ?_)
  · have h := ite_f c12 h
    refine lv_aload_n hx hb dX10_overlaps_38 rfl (lv_at hl 0 rfl) ?_
    refine lv_iload_n hx hb dX10_overlaps_39 rfl (lv_at hl 1 rfl) ?_
    obtain ⟨r13, hc14, h⟩ := bd1_at h
    refine kjL (kV (own := "DateSpansModel") (C := "DateSpansModel") (b := h_this) (As := [.int p1]) (rest := []) ⟨hx, hb, hml, hown, hts⟩ (kX10_instantOf l dC dI cI cJ cB h_this h_this_dayAt h_this_secondAt h_this_spans h_this_kept h_this_text h_this_row h_this_read h_this_many h_this_first h_this_lengths h_this_page N p1 (upd i_this 9 (0 : Int32)) j_this f_this_dayAt f_this_secondAt r13 hc14 _) (kgV (kq q_1340 rfl) (kq q_1342 rfl) (kq q_39 rfl) (kq q_66 rfl) (kq q_1343 rfl)) yd_X10_instantOf ⟨Nat.le_of_ble_eq_true rfl, Nat.le_of_ble_eq_true rfl⟩ hN hK hP hD [0, 1, 2] rfl rfl (ci := 9) rfl rfl rfl rfl rfl hl.1 rfl (lv_room (Nat.le_of_ble_eq_true rfl)) dX10_overlaps_40) hP hD hS hA [0, 1, 2] rfl rfl (fun H locs hP hD hS => ?_)
    have hP : va_P (dC, dI) vwCl [cl_X10 h_this h_this_dayAt h_this_secondAt h_this_spans h_this_kept h_this_text h_this_row h_this_read h_this_many h_this_first h_this_lengths h_this_page (upd i_this 9 (0 : Int32)) j_this, (h_this_dayAt, .inl (cI, 8, .inl f_this_dayAt)), (h_this_secondAt, .inl (cI, 8, .inl f_this_secondAt)), (h_this_row, .inl (cJ, 16, .inr (.inl f_this_row)))] H := hP
    have hD : va_D A [cl_X10 h_this h_this_dayAt h_this_secondAt h_this_spans h_this_kept h_this_text h_this_row h_this_read h_this_many h_this_first h_this_lengths h_this_page (upd i_this 9 (0 : Int32)) j_this, (h_this_dayAt, .inl (cI, 8, .inl f_this_dayAt)), (h_this_secondAt, .inl (cI, 8, .inl f_this_secondAt)), (h_this_row, .inl (cJ, 16, .inr (.inl f_this_row)))] := hD
    refine lv_aload_n hx hb dX10_overlaps_43 rfl (lv_at hl 0 rfl) ?_
    refine lv_iload_n hx hb dX10_overlaps_44 rfl (lv_at hl 2 rfl) ?_
    obtain ⟨r15, hc16, h⟩ := bd1_at h
    refine kjL (kV (own := "DateSpansModel") (C := "DateSpansModel") (b := h_this) (As := [.int p2]) (rest := [.long r13]) ⟨hx, hb, hml, hown, hts⟩ (kX10_instantOf l dC dI cI cJ cB h_this h_this_dayAt h_this_secondAt h_this_spans h_this_kept h_this_text h_this_row h_this_read h_this_many h_this_first h_this_lengths h_this_page N p2 (upd i_this 9 (0 : Int32)) j_this f_this_dayAt f_this_secondAt r15 hc16 _) (kgV (kq q_1340 rfl) (kq q_1342 rfl) (kq q_39 rfl) (kq q_66 rfl) (kq q_1343 rfl)) yd_X10_instantOf ⟨Nat.le_of_ble_eq_true rfl, Nat.le_of_ble_eq_true rfl⟩ hN hK hP hD [0, 1, 2] rfl rfl (ci := 9) rfl rfl rfl rfl rfl hl.1 rfl (lv_room (Nat.le_of_ble_eq_true rfl)) dX10_overlaps_45) hP hD hS hA [0, 1, 2] rfl rfl (fun H locs hP hD hS => ?_)
    have hP : va_P (dC, dI) vwCl [cl_X10 h_this h_this_dayAt h_this_secondAt h_this_spans h_this_kept h_this_text h_this_row h_this_read h_this_many h_this_first h_this_lengths h_this_page (upd i_this 9 (0 : Int32)) j_this, (h_this_dayAt, .inl (cI, 8, .inl f_this_dayAt)), (h_this_secondAt, .inl (cI, 8, .inl f_this_secondAt)), (h_this_row, .inl (cJ, 16, .inr (.inl f_this_row)))] H := hP
    have hD : va_D A [cl_X10 h_this h_this_dayAt h_this_secondAt h_this_spans h_this_kept h_this_text h_this_row h_this_read h_this_many h_this_first h_this_lengths h_this_page (upd i_this 9 (0 : Int32)) j_this, (h_this_dayAt, .inl (cI, 8, .inl f_this_dayAt)), (h_this_secondAt, .inl (cI, 8, .inl f_this_secondAt)), (h_this_row, .inl (cJ, 16, .inr (.inl f_this_row)))] := hD
    refine va_mmin_long (rest := []) hx hb (hml.trans hl.1.symm) hown (hts _ (kq q_1478 rfl)) (hts _ (kq q_763 rfl)) (hts _ (kq q_72 rfl)) (hts _ (kq q_764 rfl)) (Nat.le_of_ble_eq_true rfl) (Nat.le_of_ble_eq_true rfl) (Nat.zero_le _) (Nat.zero_le _) dX10_overlaps_48 ?_
    refine lv_topl (fun z17 ez17 => ?_)
    have h := nm_at ez17 h
    refine lv_aload_n hx hb dX10_overlaps_51 rfl (lv_at hl 0 rfl) ?_
    refine lv_iload_n hx hb dX10_overlaps_52 rfl (lv_at hl 3 rfl) ?_
    obtain ⟨r18, hc19, h⟩ := bd1_at h
    refine kjL (kV (own := "DateSpansModel") (C := "DateSpansModel") (b := h_this) (As := [.int p3]) (rest := [.long z17]) ⟨hx, hb, hml, hown, hts⟩ (kX10_instantOf l dC dI cI cJ cB h_this h_this_dayAt h_this_secondAt h_this_spans h_this_kept h_this_text h_this_row h_this_read h_this_many h_this_first h_this_lengths h_this_page N p3 (upd i_this 9 (0 : Int32)) j_this f_this_dayAt f_this_secondAt r18 hc19 _) (kgV (kq q_1340 rfl) (kq q_1342 rfl) (kq q_39 rfl) (kq q_66 rfl) (kq q_1343 rfl)) yd_X10_instantOf ⟨Nat.le_of_ble_eq_true rfl, Nat.le_of_ble_eq_true rfl⟩ hN hK hP hD [0, 1, 2] rfl rfl (ci := 9) rfl rfl rfl rfl rfl hl.1 rfl (lv_room (Nat.le_of_ble_eq_true rfl)) dX10_overlaps_53) hP hD hS hA [0, 1, 2] rfl rfl (fun H locs hP hD hS => ?_)
    have hP : va_P (dC, dI) vwCl [cl_X10 h_this h_this_dayAt h_this_secondAt h_this_spans h_this_kept h_this_text h_this_row h_this_read h_this_many h_this_first h_this_lengths h_this_page (upd i_this 9 (0 : Int32)) j_this, (h_this_dayAt, .inl (cI, 8, .inl f_this_dayAt)), (h_this_secondAt, .inl (cI, 8, .inl f_this_secondAt)), (h_this_row, .inl (cJ, 16, .inr (.inl f_this_row)))] H := hP
    have hD : va_D A [cl_X10 h_this h_this_dayAt h_this_secondAt h_this_spans h_this_kept h_this_text h_this_row h_this_read h_this_many h_this_first h_this_lengths h_this_page (upd i_this 9 (0 : Int32)) j_this, (h_this_dayAt, .inl (cI, 8, .inl f_this_dayAt)), (h_this_secondAt, .inl (cI, 8, .inl f_this_secondAt)), (h_this_row, .inl (cJ, 16, .inr (.inl f_this_row)))] := hD
    refine lv_aload_n hx hb dX10_overlaps_56 rfl (lv_at hl 0 rfl) ?_
    refine lv_iload hx hb dX10_overlaps_57 (lv_at hl 4 rfl) ?_
    obtain ⟨r20, hc21, h⟩ := bd1_at h
    refine kjL (kV (own := "DateSpansModel") (C := "DateSpansModel") (b := h_this) (As := [.int p4]) (rest := [.long r18, .long z17]) ⟨hx, hb, hml, hown, hts⟩ (kX10_instantOf l dC dI cI cJ cB h_this h_this_dayAt h_this_secondAt h_this_spans h_this_kept h_this_text h_this_row h_this_read h_this_many h_this_first h_this_lengths h_this_page N p4 (upd i_this 9 (0 : Int32)) j_this f_this_dayAt f_this_secondAt r20 hc21 _) (kgV (kq q_1340 rfl) (kq q_1342 rfl) (kq q_39 rfl) (kq q_66 rfl) (kq q_1343 rfl)) yd_X10_instantOf ⟨Nat.le_of_ble_eq_true rfl, Nat.le_of_ble_eq_true rfl⟩ hN hK hP hD [0, 1, 2] rfl rfl (ci := 9) rfl rfl rfl rfl rfl hl.1 rfl (lv_room (Nat.le_of_ble_eq_true rfl)) dX10_overlaps_59) hP hD hS hA [0, 1, 2] rfl rfl (fun H locs hP hD hS => ?_)
    have hP : va_P (dC, dI) vwCl [cl_X10 h_this h_this_dayAt h_this_secondAt h_this_spans h_this_kept h_this_text h_this_row h_this_read h_this_many h_this_first h_this_lengths h_this_page (upd i_this 9 (0 : Int32)) j_this, (h_this_dayAt, .inl (cI, 8, .inl f_this_dayAt)), (h_this_secondAt, .inl (cI, 8, .inl f_this_secondAt)), (h_this_row, .inl (cJ, 16, .inr (.inl f_this_row)))] H := hP
    have hD : va_D A [cl_X10 h_this h_this_dayAt h_this_secondAt h_this_spans h_this_kept h_this_text h_this_row h_this_read h_this_many h_this_first h_this_lengths h_this_page (upd i_this 9 (0 : Int32)) j_this, (h_this_dayAt, .inl (cI, 8, .inl f_this_dayAt)), (h_this_secondAt, .inl (cI, 8, .inl f_this_secondAt)), (h_this_row, .inl (cJ, 16, .inr (.inl f_this_row)))] := hD
    refine va_mmin_long (rest := [.long z17]) hx hb (hml.trans hl.1.symm) hown (hts _ (kq q_1478 rfl)) (hts _ (kq q_763 rfl)) (hts _ (kq q_72 rfl)) (hts _ (kq q_764 rfl)) (Nat.le_of_ble_eq_true rfl) (Nat.le_of_ble_eq_true rfl) (Nat.zero_le _) (Nat.zero_le _) dX10_overlaps_62 ?_
    refine lv_topl (fun z22 ez22 => ?_)
    have h := nm_at ez22 h
    refine va_mmax_long (rest := []) hx hb (hml.trans hl.1.symm) hown (hts _ (kq q_1479 rfl)) (hts _ (kq q_766 rfl)) (hts _ (kq q_72 rfl)) (hts _ (kq q_767 rfl)) (Nat.le_of_ble_eq_true rfl) (Nat.le_of_ble_eq_true rfl) (Nat.zero_le _) (Nat.zero_le _) dX10_overlaps_65 ?_
    refine lv_topl (fun z23 ez23 => ?_)
    have h := nm_at ez23 h
    refine lv_lstore (lv' := [(5, .long z23), (0, .ref h_this), (1, .int p1), (2, .int p2), (3, .int p3), (4, .int p4)]) hx hb dX10_overlaps_68 hl (by decide) rfl (fun ls hl => ?_)
    refine lv_aload_n hx hb dX10_overlaps_70 rfl (lv_at hl 1 rfl) ?_
    refine lv_iload_n hx hb dX10_overlaps_71 rfl (lv_at hl 2 rfl) ?_
    obtain ⟨r24, hc25, h⟩ := bd1_at h
    refine kjL (kV (own := "DateSpansModel") (C := "DateSpansModel") (b := h_this) (As := [.int p1]) (rest := []) ⟨hx, hb, hml, hown, hts⟩ (kX10_instantOf l dC dI cI cJ cB h_this h_this_dayAt h_this_secondAt h_this_spans h_this_kept h_this_text h_this_row h_this_read h_this_many h_this_first h_this_lengths h_this_page N p1 (upd i_this 9 (0 : Int32)) j_this f_this_dayAt f_this_secondAt r24 hc25 _) (kgV (kq q_1340 rfl) (kq q_1342 rfl) (kq q_39 rfl) (kq q_66 rfl) (kq q_1343 rfl)) yd_X10_instantOf ⟨Nat.le_of_ble_eq_true rfl, Nat.le_of_ble_eq_true rfl⟩ hN hK hP hD [0, 1, 2] rfl rfl (ci := 9) rfl rfl rfl rfl rfl hl.1 rfl (lv_room (Nat.le_of_ble_eq_true rfl)) dX10_overlaps_72) hP hD hS hA [0, 1, 2] rfl rfl (fun H locs hP hD hS => ?_)
    have hP : va_P (dC, dI) vwCl [cl_X10 h_this h_this_dayAt h_this_secondAt h_this_spans h_this_kept h_this_text h_this_row h_this_read h_this_many h_this_first h_this_lengths h_this_page (upd i_this 9 (0 : Int32)) j_this, (h_this_dayAt, .inl (cI, 8, .inl f_this_dayAt)), (h_this_secondAt, .inl (cI, 8, .inl f_this_secondAt)), (h_this_row, .inl (cJ, 16, .inr (.inl f_this_row)))] H := hP
    have hD : va_D A [cl_X10 h_this h_this_dayAt h_this_secondAt h_this_spans h_this_kept h_this_text h_this_row h_this_read h_this_many h_this_first h_this_lengths h_this_page (upd i_this 9 (0 : Int32)) j_this, (h_this_dayAt, .inl (cI, 8, .inl f_this_dayAt)), (h_this_secondAt, .inl (cI, 8, .inl f_this_secondAt)), (h_this_row, .inl (cJ, 16, .inr (.inl f_this_row)))] := hD
    refine lv_aload_n hx hb dX10_overlaps_75 rfl (lv_at hl 1 rfl) ?_
    refine lv_iload_n hx hb dX10_overlaps_76 rfl (lv_at hl 3 rfl) ?_
    obtain ⟨r26, hc27, h⟩ := bd1_at h
    refine kjL (kV (own := "DateSpansModel") (C := "DateSpansModel") (b := h_this) (As := [.int p2]) (rest := [.long r24]) ⟨hx, hb, hml, hown, hts⟩ (kX10_instantOf l dC dI cI cJ cB h_this h_this_dayAt h_this_secondAt h_this_spans h_this_kept h_this_text h_this_row h_this_read h_this_many h_this_first h_this_lengths h_this_page N p2 (upd i_this 9 (0 : Int32)) j_this f_this_dayAt f_this_secondAt r26 hc27 _) (kgV (kq q_1340 rfl) (kq q_1342 rfl) (kq q_39 rfl) (kq q_66 rfl) (kq q_1343 rfl)) yd_X10_instantOf ⟨Nat.le_of_ble_eq_true rfl, Nat.le_of_ble_eq_true rfl⟩ hN hK hP hD [0, 1, 2] rfl rfl (ci := 9) rfl rfl rfl rfl rfl hl.1 rfl (lv_room (Nat.le_of_ble_eq_true rfl)) dX10_overlaps_77) hP hD hS hA [0, 1, 2] rfl rfl (fun H locs hP hD hS => ?_)
    have hP : va_P (dC, dI) vwCl [cl_X10 h_this h_this_dayAt h_this_secondAt h_this_spans h_this_kept h_this_text h_this_row h_this_read h_this_many h_this_first h_this_lengths h_this_page (upd i_this 9 (0 : Int32)) j_this, (h_this_dayAt, .inl (cI, 8, .inl f_this_dayAt)), (h_this_secondAt, .inl (cI, 8, .inl f_this_secondAt)), (h_this_row, .inl (cJ, 16, .inr (.inl f_this_row)))] H := hP
    have hD : va_D A [cl_X10 h_this h_this_dayAt h_this_secondAt h_this_spans h_this_kept h_this_text h_this_row h_this_read h_this_many h_this_first h_this_lengths h_this_page (upd i_this 9 (0 : Int32)) j_this, (h_this_dayAt, .inl (cI, 8, .inl f_this_dayAt)), (h_this_secondAt, .inl (cI, 8, .inl f_this_secondAt)), (h_this_row, .inl (cJ, 16, .inr (.inl f_this_row)))] := hD
    refine va_mmax_long (rest := []) hx hb (hml.trans hl.1.symm) hown (hts _ (kq q_1479 rfl)) (hts _ (kq q_766 rfl)) (hts _ (kq q_72 rfl)) (hts _ (kq q_767 rfl)) (Nat.le_of_ble_eq_true rfl) (Nat.le_of_ble_eq_true rfl) (Nat.zero_le _) (Nat.zero_le _) dX10_overlaps_80 ?_
    refine lv_topl (fun z28 ez28 => ?_)
    have h := nm_at ez28 h
    refine lv_aload_n hx hb dX10_overlaps_83 rfl (lv_at hl 1 rfl) ?_
    refine lv_iload_n hx hb dX10_overlaps_84 rfl (lv_at hl 4 rfl) ?_
    obtain ⟨r29, hc30, h⟩ := bd1_at h
    refine kjL (kV (own := "DateSpansModel") (C := "DateSpansModel") (b := h_this) (As := [.int p3]) (rest := [.long z28]) ⟨hx, hb, hml, hown, hts⟩ (kX10_instantOf l dC dI cI cJ cB h_this h_this_dayAt h_this_secondAt h_this_spans h_this_kept h_this_text h_this_row h_this_read h_this_many h_this_first h_this_lengths h_this_page N p3 (upd i_this 9 (0 : Int32)) j_this f_this_dayAt f_this_secondAt r29 hc30 _) (kgV (kq q_1340 rfl) (kq q_1342 rfl) (kq q_39 rfl) (kq q_66 rfl) (kq q_1343 rfl)) yd_X10_instantOf ⟨Nat.le_of_ble_eq_true rfl, Nat.le_of_ble_eq_true rfl⟩ hN hK hP hD [0, 1, 2] rfl rfl (ci := 9) rfl rfl rfl rfl rfl hl.1 rfl (lv_room (Nat.le_of_ble_eq_true rfl)) dX10_overlaps_85) hP hD hS hA [0, 1, 2] rfl rfl (fun H locs hP hD hS => ?_)
    have hP : va_P (dC, dI) vwCl [cl_X10 h_this h_this_dayAt h_this_secondAt h_this_spans h_this_kept h_this_text h_this_row h_this_read h_this_many h_this_first h_this_lengths h_this_page (upd i_this 9 (0 : Int32)) j_this, (h_this_dayAt, .inl (cI, 8, .inl f_this_dayAt)), (h_this_secondAt, .inl (cI, 8, .inl f_this_secondAt)), (h_this_row, .inl (cJ, 16, .inr (.inl f_this_row)))] H := hP
    have hD : va_D A [cl_X10 h_this h_this_dayAt h_this_secondAt h_this_spans h_this_kept h_this_text h_this_row h_this_read h_this_many h_this_first h_this_lengths h_this_page (upd i_this 9 (0 : Int32)) j_this, (h_this_dayAt, .inl (cI, 8, .inl f_this_dayAt)), (h_this_secondAt, .inl (cI, 8, .inl f_this_secondAt)), (h_this_row, .inl (cJ, 16, .inr (.inl f_this_row)))] := hD
    refine lv_aload_n hx hb dX10_overlaps_88 rfl (lv_at hl 1 rfl) ?_
    refine lv_iload hx hb dX10_overlaps_89 (lv_at hl 5 rfl) ?_
    obtain ⟨r31, hc32, h⟩ := bd1_at h
    refine kjL (kV (own := "DateSpansModel") (C := "DateSpansModel") (b := h_this) (As := [.int p4]) (rest := [.long r29, .long z28]) ⟨hx, hb, hml, hown, hts⟩ (kX10_instantOf l dC dI cI cJ cB h_this h_this_dayAt h_this_secondAt h_this_spans h_this_kept h_this_text h_this_row h_this_read h_this_many h_this_first h_this_lengths h_this_page N p4 (upd i_this 9 (0 : Int32)) j_this f_this_dayAt f_this_secondAt r31 hc32 _) (kgV (kq q_1340 rfl) (kq q_1342 rfl) (kq q_39 rfl) (kq q_66 rfl) (kq q_1343 rfl)) yd_X10_instantOf ⟨Nat.le_of_ble_eq_true rfl, Nat.le_of_ble_eq_true rfl⟩ hN hK hP hD [0, 1, 2] rfl rfl (ci := 9) rfl rfl rfl rfl rfl hl.1 rfl (lv_room (Nat.le_of_ble_eq_true rfl)) dX10_overlaps_91) hP hD hS hA [0, 1, 2] rfl rfl (fun H locs hP hD hS => ?_)
    have hP : va_P (dC, dI) vwCl [cl_X10 h_this h_this_dayAt h_this_secondAt h_this_spans h_this_kept h_this_text h_this_row h_this_read h_this_many h_this_first h_this_lengths h_this_page (upd i_this 9 (0 : Int32)) j_this, (h_this_dayAt, .inl (cI, 8, .inl f_this_dayAt)), (h_this_secondAt, .inl (cI, 8, .inl f_this_secondAt)), (h_this_row, .inl (cJ, 16, .inr (.inl f_this_row)))] H := hP
    have hD : va_D A [cl_X10 h_this h_this_dayAt h_this_secondAt h_this_spans h_this_kept h_this_text h_this_row h_this_read h_this_many h_this_first h_this_lengths h_this_page (upd i_this 9 (0 : Int32)) j_this, (h_this_dayAt, .inl (cI, 8, .inl f_this_dayAt)), (h_this_secondAt, .inl (cI, 8, .inl f_this_secondAt)), (h_this_row, .inl (cJ, 16, .inr (.inl f_this_row)))] := hD
    refine va_mmax_long (rest := [.long z28]) hx hb (hml.trans hl.1.symm) hown (hts _ (kq q_1479 rfl)) (hts _ (kq q_766 rfl)) (hts _ (kq q_72 rfl)) (hts _ (kq q_767 rfl)) (Nat.le_of_ble_eq_true rfl) (Nat.le_of_ble_eq_true rfl) (Nat.zero_le _) (Nat.zero_le _) dX10_overlaps_94 ?_
    refine lv_topl (fun z33 ez33 => ?_)
    have h := nm_at ez33 h
    refine va_mmin_long (rest := []) hx hb (hml.trans hl.1.symm) hown (hts _ (kq q_1478 rfl)) (hts _ (kq q_763 rfl)) (hts _ (kq q_72 rfl)) (hts _ (kq q_764 rfl)) (Nat.le_of_ble_eq_true rfl) (Nat.le_of_ble_eq_true rfl) (Nat.zero_le _) (Nat.zero_le _) dX10_overlaps_97 ?_
    refine lv_topl (fun z34 ez34 => ?_)
    have h := nm_at ez34 h
    refine lv_lstore (lv' := [(7, .long z34), (5, .long z23), (0, .ref h_this), (1, .int p1), (2, .int p2), (3, .int p3), (4, .int p4)]) hx hb dX10_overlaps_100 hl (by decide) rfl (fun ls hl => ?_)
    refine lv_aload_n hx hb dX10_overlaps_102 rfl (lv_at hl 2 rfl) ?_
    refine lv_iconst (v := (0 : Int32)) hx hb dX10_overlaps_103 (by decide) ?_
    refine va_put (D := (dC, dI)) (ci := 9) (v := .int (0 : Int32)) (ty := .int) (C := RX10) (T := TX10) (N := 29) hx hb hts inX10 tyX10 tyX10_ok nmX10 hown hK hP hD hS 0 rfl rfl 8 (by decide) (hts _ (kq q_994 rfl)) (fun _ h9 => h9) rfl (by decide +kernel) rfl rfl (Nat.le_of_ble_eq_true rfl) dX10_overlaps_104 (fun H locs hP hD hS => ?_)
    have hP : va_P (dC, dI) vwCl [(h_this, .inr (9, [.ref h_this_dayAt, .ref h_this_secondAt, .ref h_this_spans, .ref h_this_kept, .int ((upd i_this 9 (0 : Int32)) 4), .ref h_this_text, .int ((upd i_this 9 (0 : Int32)) 6), .ref h_this_row, .int (0 : Int32), .int ((upd i_this 9 (0 : Int32)) 9), .int ((upd i_this 9 (0 : Int32)) 10), .int ((upd i_this 9 (0 : Int32)) 11), .int ((upd i_this 9 (0 : Int32)) 12), .int ((upd i_this 9 (0 : Int32)) 13), .int ((upd i_this 9 (0 : Int32)) 14), .int ((upd i_this 9 (0 : Int32)) 15), .int ((upd i_this 9 (0 : Int32)) 16), .int ((upd i_this 9 (0 : Int32)) 17), .int ((upd i_this 9 (0 : Int32)) 18), .ref h_this_read, .long (j_this 20), .ref h_this_many, .ref h_this_first, .ref h_this_lengths, .int ((upd i_this 9 (0 : Int32)) 24), .long (j_this 25), .long (j_this 26), .ref h_this_page, .int ((upd i_this 9 (0 : Int32)) 28)])), (h_this_dayAt, .inl (cI, 8, .inl f_this_dayAt)), (h_this_secondAt, .inl (cI, 8, .inl f_this_secondAt)), (h_this_row, .inl (cJ, 16, .inr (.inl f_this_row)))] H := hP
    have hD : va_D A [(h_this, .inr (9, [.ref h_this_dayAt, .ref h_this_secondAt, .ref h_this_spans, .ref h_this_kept, .int ((upd i_this 9 (0 : Int32)) 4), .ref h_this_text, .int ((upd i_this 9 (0 : Int32)) 6), .ref h_this_row, .int (0 : Int32), .int ((upd i_this 9 (0 : Int32)) 9), .int ((upd i_this 9 (0 : Int32)) 10), .int ((upd i_this 9 (0 : Int32)) 11), .int ((upd i_this 9 (0 : Int32)) 12), .int ((upd i_this 9 (0 : Int32)) 13), .int ((upd i_this 9 (0 : Int32)) 14), .int ((upd i_this 9 (0 : Int32)) 15), .int ((upd i_this 9 (0 : Int32)) 16), .int ((upd i_this 9 (0 : Int32)) 17), .int ((upd i_this 9 (0 : Int32)) 18), .ref h_this_read, .long (j_this 20), .ref h_this_many, .ref h_this_first, .ref h_this_lengths, .int ((upd i_this 9 (0 : Int32)) 24), .long (j_this 25), .long (j_this 26), .ref h_this_page, .int ((upd i_this 9 (0 : Int32)) 28)])), (h_this_dayAt, .inl (cI, 8, .inl f_this_dayAt)), (h_this_secondAt, .inl (cI, 8, .inl f_this_secondAt)), (h_this_row, .inl (cJ, 16, .inr (.inl f_this_row)))] := hD
    refine lv_aload_n hx hb dX10_overlaps_107 rfl (lv_at hl 2 rfl) ?_
    refine lv_lload hx hb dX10_overlaps_108 (lv_at hl 1 rfl) ?_
    have hP : va_P (dC, dI) vwCl [cl_X10 h_this h_this_dayAt h_this_secondAt h_this_spans h_this_kept h_this_text h_this_row h_this_read h_this_many h_this_first h_this_lengths h_this_page (upd (upd i_this 9 (0 : Int32)) 8 (0 : Int32)) j_this, (h_this_dayAt, .inl (cI, 8, .inl f_this_dayAt)), (h_this_secondAt, .inl (cI, 8, .inl f_this_secondAt)), (h_this_row, .inl (cJ, 16, .inr (.inl f_this_row)))] H := hP
    have hD : va_D A [cl_X10 h_this h_this_dayAt h_this_secondAt h_this_spans h_this_kept h_this_text h_this_row h_this_read h_this_many h_this_first h_this_lengths h_this_page (upd (upd i_this 9 (0 : Int32)) 8 (0 : Int32)) j_this, (h_this_dayAt, .inl (cI, 8, .inl f_this_dayAt)), (h_this_secondAt, .inl (cI, 8, .inl f_this_secondAt)), (h_this_row, .inl (cJ, 16, .inr (.inl f_this_row)))] := hD
    obtain ⟨i_this_35, f_this_row_36, hc37, h⟩ := bd2_at h
    refine kjV (kV (own := "DateSpansModel") (C := "DateSpansModel") (b := h_this) (As := [.long z23]) (rest := []) ⟨hx, hb, hml, hown, hts⟩ (kX10_tell l dC dI cI cJ cB h_this h_this_dayAt h_this_secondAt h_this_spans h_this_kept h_this_text h_this_row h_this_read h_this_many h_this_first h_this_lengths h_this_page N z23 (upd (upd i_this 9 (0 : Int32)) 8 (0 : Int32)) j_this f_this_row i_this_35 f_this_row_36 hc37 _) (kgV (kq q_1221 rfl) (kq q_1223 rfl) (kq q_29 rfl) (kq q_66 rfl) (kq q_1224 rfl)) yd_X10_tell ⟨Nat.le_of_ble_eq_true rfl, Nat.le_of_ble_eq_true rfl⟩ hN hK hP hD [0, 3] rfl rfl (ci := 9) rfl rfl rfl rfl rfl hl.1 rfl (lv_room (Nat.le_of_ble_eq_true rfl)) dX10_overlaps_110) hP hD hS hA [0, 3] rfl rfl (fun H locs hP hD hS => ?_)
    have hP : va_P (dC, dI) vwCl [cl_X10 h_this h_this_dayAt h_this_secondAt h_this_spans h_this_kept h_this_text h_this_row h_this_read h_this_many h_this_first h_this_lengths h_this_page i_this_35 j_this, (h_this_dayAt, .inl (cI, 8, .inl f_this_dayAt)), (h_this_secondAt, .inl (cI, 8, .inl f_this_secondAt)), (h_this_row, .inl (cJ, 16, .inr (.inl f_this_row_36)))] H := hP
    have hD : va_D A [cl_X10 h_this h_this_dayAt h_this_secondAt h_this_spans h_this_kept h_this_text h_this_row h_this_read h_this_many h_this_first h_this_lengths h_this_page i_this_35 j_this, (h_this_dayAt, .inl (cI, 8, .inl f_this_dayAt)), (h_this_secondAt, .inl (cI, 8, .inl f_this_secondAt)), (h_this_row, .inl (cJ, 16, .inr (.inl f_this_row_36)))] := hD
    refine lv_aload_n hx hb dX10_overlaps_113 rfl (lv_at hl 2 rfl) ?_
    refine lv_lconst (v := (0 : Int64)) hx hb dX10_overlaps_114 (by decide) ?_
    refine lv_lload hx hb dX10_overlaps_115 (lv_at hl 1 rfl) ?_
    refine lv_lload hx hb dX10_overlaps_117 (lv_at hl 0 rfl) ?_
    refine lv_lsub hx hb dX10_overlaps_119 ?_
    refine va_mmax_long (rest := [.ref h_this]) hx hb (hml.trans hl.1.symm) hown (hts _ (kq q_1479 rfl)) (hts _ (kq q_766 rfl)) (hts _ (kq q_72 rfl)) (hts _ (kq q_767 rfl)) (Nat.le_of_ble_eq_true rfl) (Nat.le_of_ble_eq_true rfl) (Nat.zero_le _) (Nat.zero_le _) dX10_overlaps_120 ?_
    refine lv_topl (fun z38 ez38 => ?_)
    have h := nm_at ez38 h
    obtain ⟨i_this_39, f_this_row_40, hc41, h⟩ := bd2_at h
    refine kjV (kV (own := "DateSpansModel") (C := "DateSpansModel") (b := h_this) (As := [.long z38]) (rest := []) ⟨hx, hb, hml, hown, hts⟩ (kX10_tell l dC dI cI cJ cB h_this h_this_dayAt h_this_secondAt h_this_spans h_this_kept h_this_text h_this_row h_this_read h_this_many h_this_first h_this_lengths h_this_page N z38 i_this_35 j_this f_this_row_36 i_this_39 f_this_row_40 hc41 _) (kgV (kq q_1221 rfl) (kq q_1223 rfl) (kq q_29 rfl) (kq q_66 rfl) (kq q_1224 rfl)) yd_X10_tell ⟨Nat.le_of_ble_eq_true rfl, Nat.le_of_ble_eq_true rfl⟩ hN hK hP hD [0, 3] rfl rfl (ci := 9) rfl rfl rfl rfl rfl hl.1 rfl (lv_room (Nat.le_of_ble_eq_true rfl)) dX10_overlaps_123) hP hD hS hA [0, 3] rfl rfl (fun H locs hP hD hS => ?_)
    have hP : va_P (dC, dI) vwCl [cl_X10 h_this h_this_dayAt h_this_secondAt h_this_spans h_this_kept h_this_text h_this_row h_this_read h_this_many h_this_first h_this_lengths h_this_page i_this_39 j_this, (h_this_dayAt, .inl (cI, 8, .inl f_this_dayAt)), (h_this_secondAt, .inl (cI, 8, .inl f_this_secondAt)), (h_this_row, .inl (cJ, 16, .inr (.inl f_this_row_40)))] H := hP
    have hD : va_D A [cl_X10 h_this h_this_dayAt h_this_secondAt h_this_spans h_this_kept h_this_text h_this_row h_this_read h_this_many h_this_first h_this_lengths h_this_page i_this_39 j_this, (h_this_dayAt, .inl (cI, 8, .inl f_this_dayAt)), (h_this_secondAt, .inl (cI, 8, .inl f_this_secondAt)), (h_this_row, .inl (cJ, 16, .inr (.inl f_this_row_40)))] := hD
    refine lv_lconst (v := (0 : Int64)) hx hb dX10_overlaps_126 (by decide) ?_
    refine lv_lload hx hb dX10_overlaps_127 (lv_at hl 0 rfl) ?_
    refine lv_lload hx hb dX10_overlaps_129 (lv_at hl 1 rfl) ?_
    refine lv_lsub hx hb dX10_overlaps_131 ?_
    refine va_mmax_long (rest := []) hx hb (hml.trans hl.1.symm) hown (hts _ (kq q_1479 rfl)) (hts _ (kq q_766 rfl)) (hts _ (kq q_72 rfl)) (hts _ (kq q_767 rfl)) (Nat.le_of_ble_eq_true rfl) (Nat.le_of_ble_eq_true rfl) (Nat.zero_le _) (Nat.zero_le _) dX10_overlaps_132 ?_
    refine lv_topl (fun z42 ez42 => ?_)
    have h := nm_at ez42 h
    obtain ⟨rfl, rfl, rfl⟩ := pj3 h
    exact hEnd _ _ _ _ hP hS dX10_overlaps_135
  have h := ite_t c12 h
  refine lv_ldc2 (v := (-1 : Int64)) hx hb hown (hts _ (kq q_1363 rfl)) dX10_overlaps_34 ?_
  obtain ⟨rfl, rfl, rfl⟩ := pj3 h
  exact hEnd _ _ _ _ hP hS dX10_overlaps_37
noncomputable def fX10_leaps_j113 (N : Nat) (j_this : Nat → Int64) (f_this_dayAt : Nat → Int32) (K_86 : Int32 → Int32 → Int32 → Int32 → Int32 → Int32 → Int32 → (Nat → Int32) → (Nat → Int64) → Option (Int32 × (Nat → Int32) × (Nat → Int64))) (v3 : Int32) (v4 : Int32) (v5 : Int32) (v6 : Int32) (v7 : Int32) (v8 : Int32) (v9 : Int32) (t0 : Int32) (i_this : Nat → Int32) (f_this_row : Nat → Int64) : Option (Int32 × (Nat → Int32) × (Nat → Int64)) := (if t0 < v3 then (nm (v9 + (1 : Int32)) fun z2 => (K_86 v3 v4 v5 v6 v7 v8 z2 i_this f_this_row)) else (if t0 ≤ v4 then (if v6 = (0 : Int32) then (nm (v6 + (1 : Int32)) fun z7 => (nm (v9 + (1 : Int32)) fun z8 => (K_86 v3 v4 v5 z7 t0 t0 z8 i_this f_this_row))) else (nm (v6 + (1 : Int32)) fun z5 => (nm (v9 + (1 : Int32)) fun z6 => (K_86 v3 v4 v5 z5 v7 t0 z6 i_this f_this_row)))) else (nm (v9 + (1 : Int32)) fun z9 => (K_86 v3 v4 v5 v6 v7 v8 z9 i_this f_this_row))))
noncomputable def fX10_leaps_l86 (N : Nat) (j_this : Nat → Int64) (f_this_dayAt : Nat → Int32) (n : Nat) : Int32 → Int32 → Int32 → Int32 → Int32 → Int32 → Int32 → (Nat → Int32) → (Nat → Int64) → Option (Int32 × (Nat → Int32) × (Nat → Int64)) := Nat.rec (motive := fun _ => Int32 → Int32 → Int32 → Int32 → Int32 → Int32 → Int32 → (Nat → Int32) → (Nat → Int64) → Option (Int32 × (Nat → Int32) × (Nat → Int64))) (fun _ _ _ _ _ _ _ _ _ => none) (fun _ K_86 v3 v4 v5 v6 v7 v8 v9 i_this f_this_row => (if v5 < v9 then (bd2 (fX10_tell N v7.toInt64 (upd i_this 8 (0 : Int32)) j_this f_this_row) fun i_this_11 f_this_row_12 => (bd2 (fX10_tell N v8.toInt64 i_this_11 j_this f_this_row_12) fun i_this_14 f_this_row_15 => (some (v6, i_this_14, f_this_row_15)))) else (bd1 (fX10_isLeap N v9) fun r17 => (if r17 = (0 : Int32) then (fX10_leaps_j113 N j_this f_this_dayAt K_86 v3 v4 v5 v6 v7 v8 v9 (-1 : Int32) i_this f_this_row) else (bd1 (fX10_dayOf N v9 (2 : Int32) (29 : Int32)) fun r20 => (fX10_leaps_j113 N j_this f_this_dayAt K_86 v3 v4 v5 v6 v7 v8 v9 r20 i_this f_this_row)))))) n
theorem fX10_leaps_l86_s (N : Nat) (j_this : Nat → Int64) (f_this_dayAt : Nat → Int32) (n : Nat) (v3 : Int32) (v4 : Int32) (v5 : Int32) (v6 : Int32) (v7 : Int32) (v8 : Int32) (v9 : Int32) (i_this : Nat → Int32) (f_this_row : Nat → Int64) : fX10_leaps_l86 N j_this f_this_dayAt (n + 1) v3 v4 v5 v6 v7 v8 v9 i_this f_this_row = (if v5 < v9 then (bd2 (fX10_tell N v7.toInt64 (upd i_this 8 (0 : Int32)) j_this f_this_row) fun i_this_11 f_this_row_12 => (bd2 (fX10_tell N v8.toInt64 i_this_11 j_this f_this_row_12) fun i_this_14 f_this_row_15 => (some (v6, i_this_14, f_this_row_15)))) else (bd1 (fX10_isLeap N v9) fun r17 => (if r17 = (0 : Int32) then (fX10_leaps_j113 N j_this f_this_dayAt (fX10_leaps_l86 N j_this f_this_dayAt n) v3 v4 v5 v6 v7 v8 v9 (-1 : Int32) i_this f_this_row) else (bd1 (fX10_dayOf N v9 (2 : Int32) (29 : Int32)) fun r20 => (fX10_leaps_j113 N j_this f_this_dayAt (fX10_leaps_l86 N j_this f_this_dayAt n) v3 v4 v5 v6 v7 v8 v9 r20 i_this f_this_row))))) := rfl
theorem fX10_leaps_l86_0 (N : Nat) (j_this : Nat → Int64) (f_this_dayAt : Nat → Int32) (v3 : Int32) (v4 : Int32) (v5 : Int32) (v6 : Int32) (v7 : Int32) (v8 : Int32) (v9 : Int32) (i_this : Nat → Int32) (f_this_row : Nat → Int64) : fX10_leaps_l86 N j_this f_this_dayAt 0 v3 v4 v5 v6 v7 v8 v9 i_this f_this_row = none := rfl
noncomputable def fX10_leaps (N : Nat) (p1 : Int32) (p2 : Int32) (i_this : Nat → Int32) (j_this : Nat → Int64) (f_this_dayAt : Nat → Int32) (f_this_row : Nat → Int64) : Option (Int32 × (Nat → Int32) × (Nat → Int64)) := (bd1 (fX10_isSlot N p1) fun r22 => (if r22 = (0 : Int32) then (some ((-1 : Int32), (upd i_this 9 (0 : Int32)), f_this_row)) else (bd1 (fX10_isSlot N p2) fun r25 => (if r25 = (0 : Int32) then (some ((-1 : Int32), (upd i_this 9 (0 : Int32)), f_this_row)) else (gi p1 8 (gi p2 8 (nm (if (f_this_dayAt p2.toNatClampNeg) < (f_this_dayAt p1.toNatClampNeg) then (f_this_dayAt p2.toNatClampNeg) else (f_this_dayAt p1.toNatClampNeg)) fun z30 => (gi p1 8 (gi p2 8 (nm (if (f_this_dayAt p1.toNatClampNeg) < (f_this_dayAt p2.toNatClampNeg) then (f_this_dayAt p2.toNatClampNeg) else (f_this_dayAt p1.toNatClampNeg)) fun z33 => (bd1 (fX10_dates N z33 (upd i_this 9 (0 : Int32)) j_this) fun i_this_34 => (nm (i_this_34 10) fun z36 => (bd1 (fX10_dates N z30 i_this_34 j_this) fun i_this_37 => (nm (i_this_37 10) fun z39 => (fX10_leaps_l86 N j_this f_this_dayAt N z30 z33 z36 (0 : Int32) (-1 : Int32) (-1 : Int32) z39 i_this_37 f_this_row)))))))))))))))
set_option maxHeartbeats 4000000 in
set_option maxRecDepth 100000 in
theorem kX10_leaps (l : Launch) (dC : Nat → ClassId) (dI : Nat → Nat → Nat) (cI cJ cB : ClassId) (h_this h_this_dayAt h_this_secondAt h_this_spans h_this_kept h_this_text h_this_row h_this_read h_this_many h_this_first h_this_lengths h_this_page : Nat) (N : Nat) (p1 : Int32) (p2 : Int32) (i_this : Nat → Int32) (j_this : Nat → Int64) (f_this_dayAt : Nat → Int32) (f_this_row : Nat → Int64) (r : Int32) (o_i_this : Nat → Int32) (o_f_this_row : Nat → Int64) (hf : fX10_leaps N p1 p2 i_this j_this f_this_dayAt f_this_row = some (r, o_i_this, o_f_this_row)) : MI l yX10_leaps (kws yX10_leaps cX10_leaps 11 (some .int)) (kR 3 66) (dC, dI) (kT cI cJ cB) [.ref h_this, .int p1, .int p2] [cl_X10 h_this h_this_dayAt h_this_secondAt h_this_spans h_this_kept h_this_text h_this_row h_this_read h_this_many h_this_first h_this_lengths h_this_page i_this j_this, (h_this_dayAt, .inl (cI, 8, .inl f_this_dayAt)), (h_this_row, .inl (cJ, 16, .inr (.inl f_this_row)))] [cl_X10 h_this h_this_dayAt h_this_secondAt h_this_spans h_this_kept h_this_text h_this_row h_this_read h_this_many h_this_first h_this_lengths h_this_page o_i_this j_this, (h_this_dayAt, .inl (cI, 8, .inl f_this_dayAt)), (h_this_row, .inl (cJ, 16, .inr (.inl o_f_this_row)))] r := by
  refine MI.of (cc := cX10_leaps) (maxL := 11) (by decide) (Nat.le_of_ble_eq_true rfl) (fun p e s m args below meth c A Q ls KC hN hK hP hD hA hl hEnd => ?_)
  obtain ⟨hx, hb, hml, hown, hts⟩ := KC
  have hown : s.vm.findClass "DateSpansModel" = some m.cls := hown
  have hl : lv_has ls 11 [(0, .ref h_this), (1, .int p1), (2, .int p2)] := hl
  have hS : va_S A s.heap s.heap [] := va_S.rf
  have LP_86 : ∀ n_86 : Nat, ∀ (v3 : Int32) (v4 : Int32) (v5 : Int32) (v6 : Int32) (v7 : Int32) (v8 : Int32) (v9 : Int32) (i_this : Nat → Int32) (f_this_row : Nat → Int64) (ls : Array Slot) (H : Heap) (locs : List Loc), fX10_leaps_l86 N j_this f_this_dayAt n_86 v3 v4 v5 v6 v7 v8 v9 i_this f_this_row = some (r, o_i_this, o_f_this_row) → lv_has ls 11 [(0, .ref h_this), (3, .int v3), (4, .int v4), (5, .int v5), (6, .int v6), (7, .int v7), (8, .int v8), (9, .int v9)] → va_P (dC, dI) vwCl [cl_X10 h_this h_this_dayAt h_this_secondAt h_this_spans h_this_kept h_this_text h_this_row h_this_read h_this_many h_this_first h_this_lengths h_this_page i_this j_this, (h_this_dayAt, .inl (cI, 8, .inl f_this_dayAt)), (h_this_row, .inl (cJ, 16, .inr (.inl f_this_row)))] H → va_D A [cl_X10 h_this h_this_dayAt h_this_secondAt h_this_spans h_this_kept h_this_text h_this_row h_this_read h_this_many h_this_first h_this_lengths h_this_page i_this j_this, (h_this_dayAt, .inl (cI, 8, .inl f_this_dayAt)), (h_this_row, .inl (cJ, 16, .inr (.inl f_this_row)))] → va_S A s.heap H locs → W p l e (kR 3 66) s m args below meth c H locs 0 0 Q (F0 m 86 ls []) := by
    intro n_86
    induction n_86 with
    | zero =>
      intro v3 v4 v5 v6 v7 v8 v9 i_this f_this_row ls H locs h hl hP hD hS
      rw [fX10_leaps_l86_0] at h; cases h
    | succ n_86 ih_86 =>
      have JN_113 : ∀ (v3 : Int32) (v4 : Int32) (v5 : Int32) (v6 : Int32) (v7 : Int32) (v8 : Int32) (v9 : Int32) (t0 : Int32) (i_this : Nat → Int32) (f_this_row : Nat → Int64) (ls : Array Slot) (H : Heap) (locs : List Loc), (fX10_leaps_j113 N j_this f_this_dayAt (fX10_leaps_l86 N j_this f_this_dayAt n_86)) v3 v4 v5 v6 v7 v8 v9 t0 i_this f_this_row = some (r, o_i_this, o_f_this_row) → lv_has ls 11 [(0, .ref h_this), (3, .int v3), (4, .int v4), (5, .int v5), (6, .int v6), (7, .int v7), (8, .int v8), (9, .int v9)] → va_P (dC, dI) vwCl [cl_X10 h_this h_this_dayAt h_this_secondAt h_this_spans h_this_kept h_this_text h_this_row h_this_read h_this_many h_this_first h_this_lengths h_this_page i_this j_this, (h_this_dayAt, .inl (cI, 8, .inl f_this_dayAt)), (h_this_row, .inl (cJ, 16, .inr (.inl f_this_row)))] H → va_D A [cl_X10 h_this h_this_dayAt h_this_secondAt h_this_spans h_this_kept h_this_text h_this_row h_this_read h_this_many h_this_first h_this_lengths h_this_page i_this j_this, (h_this_dayAt, .inl (cI, 8, .inl f_this_dayAt)), (h_this_row, .inl (cJ, 16, .inr (.inl f_this_row)))] → va_S A s.heap H locs → W p l e (kR 3 66) s m args below meth c H locs 0 0 Q (F0 m 113 ls [.int t0]) := by
        intro v3 v4 v5 v6 v7 v8 v9 t0 i_this f_this_row ls H locs h hl hP hD hS
        unfold fX10_leaps_j113 at h
        refine lv_istore (lv' := [(10, .int t0), (0, .ref h_this), (3, .int v3), (4, .int v4), (5, .int v5), (6, .int v6), (7, .int v7), (8, .int v8), (9, .int v9)]) hx hb dX10_leaps_113 hl (by decide) rfl (fun ls hl => ?_)
        refine lv_iload hx hb dX10_leaps_115 (lv_at hl 0 rfl) ?_
        refine lv_iload_n hx hb dX10_leaps_117 rfl (lv_at hl 2 rfl) ?_
        refine lv_icmp_lt (tgt := 152) hx hb dX10_leaps_118 (by decide) (fun c1 => ?_) (fun c1 => ?_)
        · have h := ite_t c1 h
          obtain ⟨z2, ez2⟩ : ∃ y : Int32, y = (v9 + (1 : Int32)) := ⟨_, rfl⟩
          have h := nm_at ez2 h
          refine lv_iinc (v := z2) (lv' := [(9, .int z2), (10, .int t0), (0, .ref h_this), (3, .int v3), (4, .int v4), (5, .int v5), (6, .int v6), (7, .int v7), (8, .int v8)]) hx hb dX10_leaps_152 hl (k := 8) rfl (by rw [ez2]; rfl) (by decide) rfl (fun ls hl => ?_)
          refine lv_goto (tgt := 86) hx hb dX10_leaps_155 (by decide) ?_
          exact ih_86 _ _ _ _ _ _ _ _ _ _ _ _ h (lv_sub hl [2, 3, 4, 5, 6, 7, 8, 0] rfl) hP hD hS
        have h := ite_f c1 h
        refine lv_iload hx hb dX10_leaps_121 (lv_at hl 0 rfl) ?_
        refine lv_iload hx hb dX10_leaps_123 (lv_at hl 3 rfl) ?_
        refine lv_icmp_le (tgt := 131) hx hb dX10_leaps_125 (by decide) (fun c3 => ?_) (fun c3 => ?_)
        · have h := ite_t c3 h
          refine lv_iload hx hb dX10_leaps_131 (lv_at hl 5 rfl) ?_
          refine lv_if_ne (tgt := 141) hx hb dX10_leaps_133 (by decide) (fun c4 => ?_) (fun c4 => ?_)
          · have h := ite_f c4 h
            refine lv_iload hx hb dX10_leaps_141 (lv_at hl 6 rfl) ?_
            refine lv_istore (lv' := [(7, .int v7), (10, .int t0), (0, .ref h_this), (3, .int v3), (4, .int v4), (5, .int v5), (6, .int v6), (8, .int v8), (9, .int v9)]) hx hb dX10_leaps_143 hl (by decide) rfl (fun ls hl => ?_)
            refine lv_iload hx hb dX10_leaps_145 (lv_at hl 1 rfl) ?_
            refine lv_istore (lv' := [(8, .int t0), (7, .int v7), (10, .int t0), (0, .ref h_this), (3, .int v3), (4, .int v4), (5, .int v5), (6, .int v6), (9, .int v9)]) hx hb dX10_leaps_147 hl (by decide) rfl (fun ls hl => ?_)
            obtain ⟨z5, ez5⟩ : ∃ y : Int32, y = (v6 + (1 : Int32)) := ⟨_, rfl⟩
            have h := nm_at ez5 h
            refine lv_iinc (v := z5) (lv' := [(6, .int z5), (8, .int t0), (7, .int v7), (10, .int t0), (0, .ref h_this), (3, .int v3), (4, .int v4), (5, .int v5), (9, .int v9)]) hx hb dX10_leaps_149 hl (k := 7) rfl (by rw [ez5]; rfl) (by decide) rfl (fun ls hl => ?_)
            obtain ⟨z6, ez6⟩ : ∃ y : Int32, y = (v9 + (1 : Int32)) := ⟨_, rfl⟩
            have h := nm_at ez6 h
            refine lv_iinc (v := z6) (lv' := [(9, .int z6), (6, .int z5), (8, .int t0), (7, .int v7), (10, .int t0), (0, .ref h_this), (3, .int v3), (4, .int v4), (5, .int v5)]) hx hb dX10_leaps_152 hl (k := 8) rfl (by rw [ez6]; rfl) (by decide) rfl (fun ls hl => ?_)
            refine lv_goto (tgt := 86) hx hb dX10_leaps_155 (by decide) ?_
            exact ih_86 _ _ _ _ _ _ _ _ _ _ _ _ h (lv_sub hl [5, 6, 7, 8, 1, 3, 2, 0] rfl) hP hD hS
          have h := ite_t c4 h
          refine lv_iload hx hb dX10_leaps_136 (lv_at hl 0 rfl) ?_
          refine lv_goto (tgt := 143) hx hb dX10_leaps_138 (by decide) ?_
          refine lv_istore (lv' := [(7, .int t0), (10, .int t0), (0, .ref h_this), (3, .int v3), (4, .int v4), (5, .int v5), (6, .int v6), (8, .int v8), (9, .int v9)]) hx hb dX10_leaps_143 hl (by decide) rfl (fun ls hl => ?_)
          refine lv_iload hx hb dX10_leaps_145 (lv_at hl 1 rfl) ?_
          refine lv_istore (lv' := [(8, .int t0), (7, .int t0), (10, .int t0), (0, .ref h_this), (3, .int v3), (4, .int v4), (5, .int v5), (6, .int v6), (9, .int v9)]) hx hb dX10_leaps_147 hl (by decide) rfl (fun ls hl => ?_)
          obtain ⟨z7, ez7⟩ : ∃ y : Int32, y = (v6 + (1 : Int32)) := ⟨_, rfl⟩
          have h := nm_at ez7 h
          refine lv_iinc (v := z7) (lv' := [(6, .int z7), (8, .int t0), (7, .int t0), (10, .int t0), (0, .ref h_this), (3, .int v3), (4, .int v4), (5, .int v5), (9, .int v9)]) hx hb dX10_leaps_149 hl (k := 7) rfl (by rw [ez7]; rfl) (by decide) rfl (fun ls hl => ?_)
          obtain ⟨z8, ez8⟩ : ∃ y : Int32, y = (v9 + (1 : Int32)) := ⟨_, rfl⟩
          have h := nm_at ez8 h
          refine lv_iinc (v := z8) (lv' := [(9, .int z8), (6, .int z7), (8, .int t0), (7, .int t0), (10, .int t0), (0, .ref h_this), (3, .int v3), (4, .int v4), (5, .int v5)]) hx hb dX10_leaps_152 hl (k := 8) rfl (by rw [ez8]; rfl) (by decide) rfl (fun ls hl => ?_)
          refine lv_goto (tgt := 86) hx hb dX10_leaps_155 (by decide) ?_
          exact ih_86 _ _ _ _ _ _ _ _ _ _ _ _ h (lv_sub hl [5, 6, 7, 8, 1, 3, 2, 0] rfl) hP hD hS
        have h := ite_f c3 h
        refine lv_goto (tgt := 152) hx hb dX10_leaps_128 (by decide) ?_
        obtain ⟨z9, ez9⟩ : ∃ y : Int32, y = (v9 + (1 : Int32)) := ⟨_, rfl⟩
        have h := nm_at ez9 h
        refine lv_iinc (v := z9) (lv' := [(9, .int z9), (10, .int t0), (0, .ref h_this), (3, .int v3), (4, .int v4), (5, .int v5), (6, .int v6), (7, .int v7), (8, .int v8)]) hx hb dX10_leaps_152 hl (k := 8) rfl (by rw [ez9]; rfl) (by decide) rfl (fun ls hl => ?_)
        refine lv_goto (tgt := 86) hx hb dX10_leaps_155 (by decide) ?_
        exact ih_86 _ _ _ _ _ _ _ _ _ _ _ _ h (lv_sub hl [2, 3, 4, 5, 6, 7, 8, 0] rfl) hP hD hS
      intro v3 v4 v5 v6 v7 v8 v9 i_this f_this_row ls H locs h hl hP hD hS
      rw [fX10_leaps_l86_s] at h
      refine lv_iload hx hb dX10_leaps_86 (lv_at hl 7 rfl) ?_
      refine lv_iload hx hb dX10_leaps_88 (lv_at hl 3 rfl) ?_
      refine lv_icmp_gt (tgt := 158) hx hb dX10_leaps_90 (by decide) (fun c10 => ?_) (fun c10 => ?_)
      · have h := ite_t c10 h
        refine lv_aload_n hx hb dX10_leaps_158 rfl (lv_at hl 0 rfl) ?_
        refine lv_iconst (v := (0 : Int32)) hx hb dX10_leaps_159 (by decide) ?_
        refine va_put (D := (dC, dI)) (ci := 9) (v := .int (0 : Int32)) (ty := .int) (C := RX10) (T := TX10) (N := 29) hx hb hts inX10 tyX10 tyX10_ok nmX10 hown hK hP hD hS 0 rfl rfl 8 (by decide) (hts _ (kq q_994 rfl)) (fun _ h9 => h9) rfl (by decide +kernel) rfl rfl (Nat.le_of_ble_eq_true rfl) dX10_leaps_160 (fun H locs hP hD hS => ?_)
        have hP : va_P (dC, dI) vwCl [(h_this, .inr (9, [.ref h_this_dayAt, .ref h_this_secondAt, .ref h_this_spans, .ref h_this_kept, .int (i_this 4), .ref h_this_text, .int (i_this 6), .ref h_this_row, .int (0 : Int32), .int (i_this 9), .int (i_this 10), .int (i_this 11), .int (i_this 12), .int (i_this 13), .int (i_this 14), .int (i_this 15), .int (i_this 16), .int (i_this 17), .int (i_this 18), .ref h_this_read, .long (j_this 20), .ref h_this_many, .ref h_this_first, .ref h_this_lengths, .int (i_this 24), .long (j_this 25), .long (j_this 26), .ref h_this_page, .int (i_this 28)])), (h_this_dayAt, .inl (cI, 8, .inl f_this_dayAt)), (h_this_row, .inl (cJ, 16, .inr (.inl f_this_row)))] H := hP
        have hD : va_D A [(h_this, .inr (9, [.ref h_this_dayAt, .ref h_this_secondAt, .ref h_this_spans, .ref h_this_kept, .int (i_this 4), .ref h_this_text, .int (i_this 6), .ref h_this_row, .int (0 : Int32), .int (i_this 9), .int (i_this 10), .int (i_this 11), .int (i_this 12), .int (i_this 13), .int (i_this 14), .int (i_this 15), .int (i_this 16), .int (i_this 17), .int (i_this 18), .ref h_this_read, .long (j_this 20), .ref h_this_many, .ref h_this_first, .ref h_this_lengths, .int (i_this 24), .long (j_this 25), .long (j_this 26), .ref h_this_page, .int (i_this 28)])), (h_this_dayAt, .inl (cI, 8, .inl f_this_dayAt)), (h_this_row, .inl (cJ, 16, .inr (.inl f_this_row)))] := hD
        refine lv_aload_n hx hb dX10_leaps_163 rfl (lv_at hl 0 rfl) ?_
        refine lv_iload hx hb dX10_leaps_164 (lv_at hl 5 rfl) ?_
        refine lv_i2l hx hb dX10_leaps_166 rfl ?_
        have hP : va_P (dC, dI) vwCl [cl_X10 h_this h_this_dayAt h_this_secondAt h_this_spans h_this_kept h_this_text h_this_row h_this_read h_this_many h_this_first h_this_lengths h_this_page (upd i_this 8 (0 : Int32)) j_this, (h_this_dayAt, .inl (cI, 8, .inl f_this_dayAt)), (h_this_row, .inl (cJ, 16, .inr (.inl f_this_row)))] H := hP
        have hD : va_D A [cl_X10 h_this h_this_dayAt h_this_secondAt h_this_spans h_this_kept h_this_text h_this_row h_this_read h_this_many h_this_first h_this_lengths h_this_page (upd i_this 8 (0 : Int32)) j_this, (h_this_dayAt, .inl (cI, 8, .inl f_this_dayAt)), (h_this_row, .inl (cJ, 16, .inr (.inl f_this_row)))] := hD
        obtain ⟨i_this_11, f_this_row_12, hc13, h⟩ := bd2_at h
        refine kjV (kV (own := "DateSpansModel") (C := "DateSpansModel") (b := h_this) (As := [.long v7.toInt64]) (rest := []) ⟨hx, hb, hml, hown, hts⟩ (kX10_tell l dC dI cI cJ cB h_this h_this_dayAt h_this_secondAt h_this_spans h_this_kept h_this_text h_this_row h_this_read h_this_many h_this_first h_this_lengths h_this_page N v7.toInt64 (upd i_this 8 (0 : Int32)) j_this f_this_row i_this_11 f_this_row_12 hc13 _) (kgV (kq q_1221 rfl) (kq q_1223 rfl) (kq q_29 rfl) (kq q_66 rfl) (kq q_1224 rfl)) yd_X10_tell ⟨Nat.le_of_ble_eq_true rfl, Nat.le_of_ble_eq_true rfl⟩ hN hK hP hD [0, 2] rfl rfl (ci := 9) rfl rfl rfl rfl rfl hl.1 rfl (lv_room (Nat.le_of_ble_eq_true rfl)) dX10_leaps_167) hP hD hS hA [0, 2] rfl rfl (fun H locs hP hD hS => ?_)
        have hP : va_P (dC, dI) vwCl [cl_X10 h_this h_this_dayAt h_this_secondAt h_this_spans h_this_kept h_this_text h_this_row h_this_read h_this_many h_this_first h_this_lengths h_this_page i_this_11 j_this, (h_this_dayAt, .inl (cI, 8, .inl f_this_dayAt)), (h_this_row, .inl (cJ, 16, .inr (.inl f_this_row_12)))] H := hP
        have hD : va_D A [cl_X10 h_this h_this_dayAt h_this_secondAt h_this_spans h_this_kept h_this_text h_this_row h_this_read h_this_many h_this_first h_this_lengths h_this_page i_this_11 j_this, (h_this_dayAt, .inl (cI, 8, .inl f_this_dayAt)), (h_this_row, .inl (cJ, 16, .inr (.inl f_this_row_12)))] := hD
        refine lv_aload_n hx hb dX10_leaps_170 rfl (lv_at hl 0 rfl) ?_
        refine lv_iload hx hb dX10_leaps_171 (lv_at hl 6 rfl) ?_
        refine lv_i2l hx hb dX10_leaps_173 rfl ?_
        obtain ⟨i_this_14, f_this_row_15, hc16, h⟩ := bd2_at h
        refine kjV (kV (own := "DateSpansModel") (C := "DateSpansModel") (b := h_this) (As := [.long v8.toInt64]) (rest := []) ⟨hx, hb, hml, hown, hts⟩ (kX10_tell l dC dI cI cJ cB h_this h_this_dayAt h_this_secondAt h_this_spans h_this_kept h_this_text h_this_row h_this_read h_this_many h_this_first h_this_lengths h_this_page N v8.toInt64 i_this_11 j_this f_this_row_12 i_this_14 f_this_row_15 hc16 _) (kgV (kq q_1221 rfl) (kq q_1223 rfl) (kq q_29 rfl) (kq q_66 rfl) (kq q_1224 rfl)) yd_X10_tell ⟨Nat.le_of_ble_eq_true rfl, Nat.le_of_ble_eq_true rfl⟩ hN hK hP hD [0, 2] rfl rfl (ci := 9) rfl rfl rfl rfl rfl hl.1 rfl (lv_room (Nat.le_of_ble_eq_true rfl)) dX10_leaps_174) hP hD hS hA [0, 2] rfl rfl (fun H locs hP hD hS => ?_)
        have hP : va_P (dC, dI) vwCl [cl_X10 h_this h_this_dayAt h_this_secondAt h_this_spans h_this_kept h_this_text h_this_row h_this_read h_this_many h_this_first h_this_lengths h_this_page i_this_14 j_this, (h_this_dayAt, .inl (cI, 8, .inl f_this_dayAt)), (h_this_row, .inl (cJ, 16, .inr (.inl f_this_row_15)))] H := hP
        have hD : va_D A [cl_X10 h_this h_this_dayAt h_this_secondAt h_this_spans h_this_kept h_this_text h_this_row h_this_read h_this_many h_this_first h_this_lengths h_this_page i_this_14 j_this, (h_this_dayAt, .inl (cI, 8, .inl f_this_dayAt)), (h_this_row, .inl (cJ, 16, .inr (.inl f_this_row_15)))] := hD
        refine lv_iload hx hb dX10_leaps_177 (lv_at hl 4 rfl) ?_
        obtain ⟨rfl, rfl, rfl⟩ := pj3 h
        exact hEnd _ _ _ _ hP hS dX10_leaps_179 rfl
      have h := ite_f c10 h
      refine lv_iload hx hb dX10_leaps_93 (lv_at hl 7 rfl) ?_
      obtain ⟨r17, hc18, h⟩ := bd1_at h
      refine kjSI (kS0 (own := "DateSpansModel") (As := [.int v9]) (rest := []) ⟨hx, hb, hml, hown, hts⟩ (kX10_isLeap l N v9 r17 hc18) (kgS (kq q_1120 rfl) (kq q_1121 rfl) (kq q_66 rfl) (kq q_1122 rfl)) yd_X10_isLeap ⟨Nat.le_of_ble_eq_true rfl, Nat.le_of_ble_eq_true rfl⟩ rfl rfl hl.1 rfl (lv_room (Nat.le_of_ble_eq_true rfl)) dX10_leaps_95) ?_
      refine lv_if_eq (tgt := 112) hx hb dX10_leaps_98 (by decide) (fun c19 => ?_) (fun c19 => ?_)
      · have h := ite_t c19 h
        refine lv_iconst (v := (-1 : Int32)) hx hb dX10_leaps_112 (by decide) ?_
        exact JN_113 _ _ _ _ _ _ _ _ _ _ _ _ _ h (lv_sub hl [0, 1, 2, 3, 4, 5, 6, 7] rfl) hP hD hS
      have h := ite_f c19 h
      refine lv_iload hx hb dX10_leaps_101 (lv_at hl 7 rfl) ?_
      refine lv_iconst (v := (2 : Int32)) hx hb dX10_leaps_103 (by decide) ?_
      refine lv_bipush (v := (29 : Int32)) hx hb dX10_leaps_104 (by decide) ?_
      obtain ⟨r20, hc21, h⟩ := bd1_at h
      refine kjSI (kS0 (own := "DateSpansModel") (As := [.int v9, .int (2 : Int32), .int (29 : Int32)]) (rest := []) ⟨hx, hb, hml, hown, hts⟩ (kX10_dayOf l N v9 (2 : Int32) (29 : Int32) r20 hc21) (kgS (kq q_1127 rfl) (kq q_1128 rfl) (kq q_66 rfl) (kq q_1129 rfl)) yd_X10_dayOf ⟨Nat.le_of_ble_eq_true rfl, Nat.le_of_ble_eq_true rfl⟩ rfl rfl hl.1 rfl (lv_room (Nat.le_of_ble_eq_true rfl)) dX10_leaps_106) ?_
      refine lv_goto (tgt := 113) hx hb dX10_leaps_109 (by decide) ?_
      exact JN_113 _ _ _ _ _ _ _ _ _ _ _ _ _ h (lv_sub hl [0, 1, 2, 3, 4, 5, 6, 7] rfl) hP hD hS
  have h := hf
  unfold fX10_leaps at h
  refine lv_aload_n hx hb dX10_leaps_0 rfl (lv_at hl 0 rfl) ?_
  refine lv_iconst (v := (0 : Int32)) hx hb dX10_leaps_1 (by decide) ?_
  refine va_put (D := (dC, dI)) (ci := 9) (v := .int (0 : Int32)) (ty := .int) (C := RX10) (T := TX10) (N := 29) hx hb hts inX10 tyX10 tyX10_ok nmX10 hown hK hP hD hS 0 rfl rfl 9 (by decide) (hts _ (kq q_995 rfl)) (fun _ h9 => h9) rfl (by decide +kernel) rfl rfl (Nat.le_of_ble_eq_true rfl) dX10_leaps_2 (fun H locs hP hD hS => ?_)
  have hP : va_P (dC, dI) vwCl [(h_this, .inr (9, [.ref h_this_dayAt, .ref h_this_secondAt, .ref h_this_spans, .ref h_this_kept, .int (i_this 4), .ref h_this_text, .int (i_this 6), .ref h_this_row, .int (i_this 8), .int (0 : Int32), .int (i_this 10), .int (i_this 11), .int (i_this 12), .int (i_this 13), .int (i_this 14), .int (i_this 15), .int (i_this 16), .int (i_this 17), .int (i_this 18), .ref h_this_read, .long (j_this 20), .ref h_this_many, .ref h_this_first, .ref h_this_lengths, .int (i_this 24), .long (j_this 25), .long (j_this 26), .ref h_this_page, .int (i_this 28)])), (h_this_dayAt, .inl (cI, 8, .inl f_this_dayAt)), (h_this_row, .inl (cJ, 16, .inr (.inl f_this_row)))] H := hP
  have hD : va_D A [(h_this, .inr (9, [.ref h_this_dayAt, .ref h_this_secondAt, .ref h_this_spans, .ref h_this_kept, .int (i_this 4), .ref h_this_text, .int (i_this 6), .ref h_this_row, .int (i_this 8), .int (0 : Int32), .int (i_this 10), .int (i_this 11), .int (i_this 12), .int (i_this 13), .int (i_this 14), .int (i_this 15), .int (i_this 16), .int (i_this 17), .int (i_this 18), .ref h_this_read, .long (j_this 20), .ref h_this_many, .ref h_this_first, .ref h_this_lengths, .int (i_this 24), .long (j_this 25), .long (j_this 26), .ref h_this_page, .int (i_this 28)])), (h_this_dayAt, .inl (cI, 8, .inl f_this_dayAt)), (h_this_row, .inl (cJ, 16, .inr (.inl f_this_row)))] := hD
  refine lv_iload_n hx hb dX10_leaps_5 rfl (lv_at hl 1 rfl) ?_
  have hP : va_P (dC, dI) vwCl [cl_X10 h_this h_this_dayAt h_this_secondAt h_this_spans h_this_kept h_this_text h_this_row h_this_read h_this_many h_this_first h_this_lengths h_this_page (upd i_this 9 (0 : Int32)) j_this, (h_this_dayAt, .inl (cI, 8, .inl f_this_dayAt)), (h_this_row, .inl (cJ, 16, .inr (.inl f_this_row)))] H := hP
  have hD : va_D A [cl_X10 h_this h_this_dayAt h_this_secondAt h_this_spans h_this_kept h_this_text h_this_row h_this_read h_this_many h_this_first h_this_lengths h_this_page (upd i_this 9 (0 : Int32)) j_this, (h_this_dayAt, .inl (cI, 8, .inl f_this_dayAt)), (h_this_row, .inl (cJ, 16, .inr (.inl f_this_row)))] := hD
  obtain ⟨r22, hc23, h⟩ := bd1_at h
  refine kjSI (kS0 (own := "DateSpansModel") (As := [.int p1]) (rest := []) ⟨hx, hb, hml, hown, hts⟩ (kX10_isSlot l N p1 r22 hc23) (kgS (kq q_1123 rfl) (kq q_1124 rfl) (kq q_66 rfl) (kq q_1125 rfl)) yd_X10_isSlot ⟨Nat.le_of_ble_eq_true rfl, Nat.le_of_ble_eq_true rfl⟩ rfl rfl hl.1 rfl (lv_room (Nat.le_of_ble_eq_true rfl)) dX10_leaps_6) ?_
  refine lv_if_eq (tgt := 19) hx hb dX10_leaps_9 (by decide) (fun c24 => ?_) (fun c24 => ?_)
  · have h := ite_t c24 h
    refine lv_iconst (v := (-1 : Int32)) hx hb dX10_leaps_19 (by decide) ?_
    obtain ⟨rfl, rfl, rfl⟩ := pj3 h
    exact hEnd _ _ _ _ hP hS dX10_leaps_20 rfl
  have h := ite_f c24 h
  refine lv_iload_n hx hb dX10_leaps_12 rfl (lv_at hl 2 rfl) ?_
  obtain ⟨r25, hc26, h⟩ := bd1_at h
  refine kjSI (kS0 (own := "DateSpansModel") (As := [.int p2]) (rest := []) ⟨hx, hb, hml, hown, hts⟩ (kX10_isSlot l N p2 r25 hc26) (kgS (kq q_1123 rfl) (kq q_1124 rfl) (kq q_66 rfl) (kq q_1125 rfl)) yd_X10_isSlot ⟨Nat.le_of_ble_eq_true rfl, Nat.le_of_ble_eq_true rfl⟩ rfl rfl hl.1 rfl (lv_room (Nat.le_of_ble_eq_true rfl)) dX10_leaps_13) ?_
  refine lv_if_ne (tgt := 21) hx hb dX10_leaps_16 (by decide) (fun c27 => ?_) (fun c27 => ?_)
  · have h := ite_f c27 h
    refine lv_aload_n hx hb dX10_leaps_21 rfl (lv_at hl 0 rfl) ?_
    refine va_get (D := (dC, dI)) (ci := 9) (v := .ref h_this_dayAt) (C := RX10) (T := TX10) (N := 29) hx hb hts inX10 hown hK hP 0 rfl rfl 0 (by decide) (hts _ (kq q_986 rfl)) (fun _ h9 => h9) rfl dX10_leaps_22 ?_
    refine lv_iload_n hx hb dX10_leaps_25 rfl (lv_at hl 1 rfl) ?_
    obtain ⟨hi28, h⟩ := gi_at h
    refine va_iald hx hb hK hP 1 0 rfl rfl hi28 dX10_leaps_26 ?_
    refine lv_aload_n hx hb dX10_leaps_27 rfl (lv_at hl 0 rfl) ?_
    refine va_get (D := (dC, dI)) (ci := 9) (v := .ref h_this_dayAt) (C := RX10) (T := TX10) (N := 29) hx hb hts inX10 hown hK hP 0 rfl rfl 0 (by decide) (hts _ (kq q_986 rfl)) (fun _ h9 => h9) rfl dX10_leaps_28 ?_
    refine lv_iload_n hx hb dX10_leaps_31 rfl (lv_at hl 2 rfl) ?_
    obtain ⟨hi29, h⟩ := gi_at h
    refine va_iald hx hb hK hP 1 0 rfl rfl hi29 dX10_leaps_32 ?_
    refine va_mmin (rest := []) hx hb (hml.trans hl.1.symm) hown (hts _ (kq q_1300 rfl)) (hts _ (kq q_701 rfl)) (hts _ (kq q_72 rfl)) (hts _ (kq q_702 rfl)) (Nat.le_of_ble_eq_true rfl) (Nat.le_of_ble_eq_true rfl) (Nat.zero_le _) (Nat.zero_le _) dX10_leaps_33 ?_
    refine lv_topi (fun z30 ez30 => ?_)
    have h := nm_at ez30 h
    refine lv_istore_n (lv' := [(3, .int z30), (0, .ref h_this), (1, .int p1), (2, .int p2)]) hx hb dX10_leaps_36 rfl hl (by decide) rfl (fun ls hl => ?_)
    refine lv_aload_n hx hb dX10_leaps_37 rfl (lv_at hl 1 rfl) ?_
    refine va_get (D := (dC, dI)) (ci := 9) (v := .ref h_this_dayAt) (C := RX10) (T := TX10) (N := 29) hx hb hts inX10 hown hK hP 0 rfl rfl 0 (by decide) (hts _ (kq q_986 rfl)) (fun _ h9 => h9) rfl dX10_leaps_38 ?_
    refine lv_iload_n hx hb dX10_leaps_41 rfl (lv_at hl 2 rfl) ?_
    obtain ⟨hi31, h⟩ := gi_at h
    refine va_iald hx hb hK hP 1 0 rfl rfl hi31 dX10_leaps_42 ?_
    refine lv_aload_n hx hb dX10_leaps_43 rfl (lv_at hl 1 rfl) ?_
    refine va_get (D := (dC, dI)) (ci := 9) (v := .ref h_this_dayAt) (C := RX10) (T := TX10) (N := 29) hx hb hts inX10 hown hK hP 0 rfl rfl 0 (by decide) (hts _ (kq q_986 rfl)) (fun _ h9 => h9) rfl dX10_leaps_44 ?_
    refine lv_iload_n hx hb dX10_leaps_47 rfl (lv_at hl 3 rfl) ?_
    obtain ⟨hi32, h⟩ := gi_at h
    refine va_iald hx hb hK hP 1 0 rfl rfl hi32 dX10_leaps_48 ?_
    refine va_mmax (rest := []) hx hb (hml.trans hl.1.symm) hown (hts _ (kq q_1299 rfl)) (hts _ (kq q_569 rfl)) (hts _ (kq q_72 rfl)) (hts _ (kq q_570 rfl)) (Nat.le_of_ble_eq_true rfl) (Nat.le_of_ble_eq_true rfl) (Nat.zero_le _) (Nat.zero_le _) dX10_leaps_49 ?_
    refine lv_topi (fun z33 ez33 => ?_)
    have h := nm_at ez33 h
    refine lv_istore (lv' := [(4, .int z33), (3, .int z30), (0, .ref h_this), (1, .int p1), (2, .int p2)]) hx hb dX10_leaps_52 hl (by decide) rfl (fun ls hl => ?_)
    refine lv_aload_n hx hb dX10_leaps_54 rfl (lv_at hl 2 rfl) ?_
    refine lv_iload hx hb dX10_leaps_55 (lv_at hl 0 rfl) ?_
    obtain ⟨i_this_34, hc35, h⟩ := bd1_at h
    refine kjV (kV (own := "DateSpansModel") (C := "DateSpansModel") (b := h_this) (As := [.int z33]) (rest := []) ⟨hx, hb, hml, hown, hts⟩ (kX10_dates l dC dI cI cJ cB h_this h_this_dayAt h_this_secondAt h_this_spans h_this_kept h_this_text h_this_row h_this_read h_this_many h_this_first h_this_lengths h_this_page N z33 (upd i_this 9 (0 : Int32)) j_this i_this_34 hc35 _) (kgV (kq q_1238 rfl) (kq q_1240 rfl) (kq q_30 rfl) (kq q_66 rfl) (kq q_1241 rfl)) yd_X10_dates ⟨Nat.le_of_ble_eq_true rfl, Nat.le_of_ble_eq_true rfl⟩ hN hK hP hD [0] rfl rfl (ci := 9) rfl rfl rfl rfl rfl hl.1 rfl (lv_room (Nat.le_of_ble_eq_true rfl)) dX10_leaps_57) hP hD hS hA [0] rfl rfl (fun H locs hP hD hS => ?_)
    have hP : va_P (dC, dI) vwCl [cl_X10 h_this h_this_dayAt h_this_secondAt h_this_spans h_this_kept h_this_text h_this_row h_this_read h_this_many h_this_first h_this_lengths h_this_page i_this_34 j_this, (h_this_dayAt, .inl (cI, 8, .inl f_this_dayAt)), (h_this_row, .inl (cJ, 16, .inr (.inl f_this_row)))] H := hP
    have hD : va_D A [cl_X10 h_this h_this_dayAt h_this_secondAt h_this_spans h_this_kept h_this_text h_this_row h_this_read h_this_many h_this_first h_this_lengths h_this_page i_this_34 j_this, (h_this_dayAt, .inl (cI, 8, .inl f_this_dayAt)), (h_this_row, .inl (cJ, 16, .inr (.inl f_this_row)))] := hD
    refine lv_aload_n hx hb dX10_leaps_60 rfl (lv_at hl 2 rfl) ?_
    refine va_get (D := (dC, dI)) (ci := 9) (v := .int (i_this_34 10)) (C := RX10) (T := TX10) (N := 29) hx hb hts inX10 hown hK hP 0 rfl rfl 10 (by decide) (hts _ (kq q_996 rfl)) (fun _ h9 => h9) rfl dX10_leaps_61 ?_
    refine lv_topi (fun z36 ez36 => ?_)
    have h := nm_at ez36 h
    refine lv_istore (lv' := [(5, .int z36), (4, .int z33), (3, .int z30), (0, .ref h_this), (1, .int p1), (2, .int p2)]) hx hb dX10_leaps_64 hl (by decide) rfl (fun ls hl => ?_)
    refine lv_aload_n hx hb dX10_leaps_66 rfl (lv_at hl 3 rfl) ?_
    refine lv_iload_n hx hb dX10_leaps_67 rfl (lv_at hl 2 rfl) ?_
    obtain ⟨i_this_37, hc38, h⟩ := bd1_at h
    refine kjV (kV (own := "DateSpansModel") (C := "DateSpansModel") (b := h_this) (As := [.int z30]) (rest := []) ⟨hx, hb, hml, hown, hts⟩ (kX10_dates l dC dI cI cJ cB h_this h_this_dayAt h_this_secondAt h_this_spans h_this_kept h_this_text h_this_row h_this_read h_this_many h_this_first h_this_lengths h_this_page N z30 i_this_34 j_this i_this_37 hc38 _) (kgV (kq q_1238 rfl) (kq q_1240 rfl) (kq q_30 rfl) (kq q_66 rfl) (kq q_1241 rfl)) yd_X10_dates ⟨Nat.le_of_ble_eq_true rfl, Nat.le_of_ble_eq_true rfl⟩ hN hK hP hD [0] rfl rfl (ci := 9) rfl rfl rfl rfl rfl hl.1 rfl (lv_room (Nat.le_of_ble_eq_true rfl)) dX10_leaps_68) hP hD hS hA [0] rfl rfl (fun H locs hP hD hS => ?_)
    have hP : va_P (dC, dI) vwCl [cl_X10 h_this h_this_dayAt h_this_secondAt h_this_spans h_this_kept h_this_text h_this_row h_this_read h_this_many h_this_first h_this_lengths h_this_page i_this_37 j_this, (h_this_dayAt, .inl (cI, 8, .inl f_this_dayAt)), (h_this_row, .inl (cJ, 16, .inr (.inl f_this_row)))] H := hP
    have hD : va_D A [cl_X10 h_this h_this_dayAt h_this_secondAt h_this_spans h_this_kept h_this_text h_this_row h_this_read h_this_many h_this_first h_this_lengths h_this_page i_this_37 j_this, (h_this_dayAt, .inl (cI, 8, .inl f_this_dayAt)), (h_this_row, .inl (cJ, 16, .inr (.inl f_this_row)))] := hD
    refine lv_iconst (v := (0 : Int32)) hx hb dX10_leaps_71 (by decide) ?_
    refine lv_istore (lv' := [(6, .int (0 : Int32)), (5, .int z36), (4, .int z33), (3, .int z30), (0, .ref h_this), (1, .int p1), (2, .int p2)]) hx hb dX10_leaps_72 hl (by decide) rfl (fun ls hl => ?_)
    refine lv_iconst (v := (-1 : Int32)) hx hb dX10_leaps_74 (by decide) ?_
    refine lv_istore (lv' := [(7, .int (-1 : Int32)), (6, .int (0 : Int32)), (5, .int z36), (4, .int z33), (3, .int z30), (0, .ref h_this), (1, .int p1), (2, .int p2)]) hx hb dX10_leaps_75 hl (by decide) rfl (fun ls hl => ?_)
    refine lv_iconst (v := (-1 : Int32)) hx hb dX10_leaps_77 (by decide) ?_
    refine lv_istore (lv' := [(8, .int (-1 : Int32)), (7, .int (-1 : Int32)), (6, .int (0 : Int32)), (5, .int z36), (4, .int z33), (3, .int z30), (0, .ref h_this), (1, .int p1), (2, .int p2)]) hx hb dX10_leaps_78 hl (by decide) rfl (fun ls hl => ?_)
    refine lv_aload_n hx hb dX10_leaps_80 rfl (lv_at hl 6 rfl) ?_
    refine va_get (D := (dC, dI)) (ci := 9) (v := .int (i_this_37 10)) (C := RX10) (T := TX10) (N := 29) hx hb hts inX10 hown hK hP 0 rfl rfl 10 (by decide) (hts _ (kq q_996 rfl)) (fun _ h9 => h9) rfl dX10_leaps_81 ?_
    refine lv_topi (fun z39 ez39 => ?_)
    have h := nm_at ez39 h
    refine lv_istore (lv' := [(9, .int z39), (8, .int (-1 : Int32)), (7, .int (-1 : Int32)), (6, .int (0 : Int32)), (5, .int z36), (4, .int z33), (3, .int z30), (0, .ref h_this), (1, .int p1), (2, .int p2)]) hx hb dX10_leaps_84 hl (by decide) rfl (fun ls hl => ?_)
    exact LP_86 N _ _ _ _ _ _ _ _ _ _ _ _ h (lv_sub hl [7, 6, 5, 4, 3, 2, 1, 0] rfl) hP hD hS
  have h := ite_t c27 h
  refine lv_iconst (v := (-1 : Int32)) hx hb dX10_leaps_19 (by decide) ?_
  obtain ⟨rfl, rfl, rfl⟩ := pj3 h
  exact hEnd _ _ _ _ hP hS dX10_leaps_20 rfl
noncomputable def fX10_again_j86 (N : Nat) (j_this : Nat → Int64) (f_this_dayAt : Nat → Int32) (v3 : Int32) (v4 : Int32) (i_this : Nat → Int32) (f_this_row : Nat → Int64) : Option (Int32 × (Nat → Int32) × (Nat → Int64)) := (if v3 ≤ (0 : Int32) then (bd2 (fX10_tell N v4.toInt64 (upd i_this 8 (0 : Int32)) j_this f_this_row) fun i_this_2 f_this_row_3 => (bd1 (fX10_dayOf N v4 (i_this_2 11) (i_this_2 12)) fun r5 => (some (r5, i_this_2, f_this_row_3)))) else (some ((-2 : Int32), i_this, f_this_row)))
noncomputable def fX10_again_l44 (N : Nat) (j_this : Nat → Int64) (f_this_dayAt : Nat → Int32) (n : Nat) : Int32 → Int32 → (Nat → Int32) → (Nat → Int64) → Option (Int32 × (Nat → Int32) × (Nat → Int64)) := Nat.rec (motive := fun _ => Int32 → Int32 → (Nat → Int32) → (Nat → Int64) → Option (Int32 × (Nat → Int32) × (Nat → Int64))) (fun _ _ _ _ => none) (fun _ K_44 v3 v4 i_this f_this_row => (if v3 ≤ (0 : Int32) then (fX10_again_j86 N j_this f_this_dayAt v3 v4 i_this f_this_row) else (if (9999 : Int32) ≤ v4 then (fX10_again_j86 N j_this f_this_dayAt v3 v4 i_this f_this_row) else (nm (v4 + (1 : Int32)) fun z9 => (bd1 (fX10_monthDays N z9 (i_this 11)) fun r10 => (if r10 < (i_this 12) then (nm (v3 - (0 : Int32)) fun z13 => (K_44 z13 z9 i_this f_this_row)) else (nm (v3 - (1 : Int32)) fun z14 => (K_44 z14 z9 i_this f_this_row)))))))) n
theorem fX10_again_l44_s (N : Nat) (j_this : Nat → Int64) (f_this_dayAt : Nat → Int32) (n : Nat) (v3 : Int32) (v4 : Int32) (i_this : Nat → Int32) (f_this_row : Nat → Int64) : fX10_again_l44 N j_this f_this_dayAt (n + 1) v3 v4 i_this f_this_row = (if v3 ≤ (0 : Int32) then (fX10_again_j86 N j_this f_this_dayAt v3 v4 i_this f_this_row) else (if (9999 : Int32) ≤ v4 then (fX10_again_j86 N j_this f_this_dayAt v3 v4 i_this f_this_row) else (nm (v4 + (1 : Int32)) fun z9 => (bd1 (fX10_monthDays N z9 (i_this 11)) fun r10 => (if r10 < (i_this 12) then (nm (v3 - (0 : Int32)) fun z13 => ((fX10_again_l44 N j_this f_this_dayAt n) z13 z9 i_this f_this_row)) else (nm (v3 - (1 : Int32)) fun z14 => ((fX10_again_l44 N j_this f_this_dayAt n) z14 z9 i_this f_this_row))))))) := rfl
theorem fX10_again_l44_0 (N : Nat) (j_this : Nat → Int64) (f_this_dayAt : Nat → Int32) (v3 : Int32) (v4 : Int32) (i_this : Nat → Int32) (f_this_row : Nat → Int64) : fX10_again_l44 N j_this f_this_dayAt 0 v3 v4 i_this f_this_row = none := rfl
noncomputable def fX10_again (N : Nat) (p1 : Int32) (p2 : Int32) (i_this : Nat → Int32) (j_this : Nat → Int64) (f_this_dayAt : Nat → Int32) (f_this_row : Nat → Int64) : Option (Int32 × (Nat → Int32) × (Nat → Int64)) := (bd1 (fX10_isSlot N p1) fun r15 => (if r15 = (0 : Int32) then (some ((-1 : Int32), (upd i_this 9 (0 : Int32)), f_this_row)) else (bd1 (fX10_in N p2.toInt64 (1 : Int64) (100 : Int64)) fun r18 => (if r18 = (0 : Int32) then (some ((-1 : Int32), (upd i_this 9 (0 : Int32)), f_this_row)) else (gi p1 8 (bd1 (fX10_dates N (f_this_dayAt p1.toNatClampNeg) (upd i_this 9 (0 : Int32)) j_this) fun i_this_22 => (nm (i_this_22 10) fun z24 => (fX10_again_l44 N j_this f_this_dayAt N p2 z24 i_this_22 f_this_row))))))))
set_option maxHeartbeats 4000000 in
set_option maxRecDepth 100000 in
theorem kX10_again (l : Launch) (dC : Nat → ClassId) (dI : Nat → Nat → Nat) (cI cJ cB : ClassId) (h_this h_this_dayAt h_this_secondAt h_this_spans h_this_kept h_this_text h_this_row h_this_read h_this_many h_this_first h_this_lengths h_this_page : Nat) (N : Nat) (p1 : Int32) (p2 : Int32) (i_this : Nat → Int32) (j_this : Nat → Int64) (f_this_dayAt : Nat → Int32) (f_this_row : Nat → Int64) (r : Int32) (o_i_this : Nat → Int32) (o_f_this_row : Nat → Int64) (hf : fX10_again N p1 p2 i_this j_this f_this_dayAt f_this_row = some (r, o_i_this, o_f_this_row)) : MI l yX10_again (kws yX10_again cX10_again 5 (some .int)) (kR 3 66) (dC, dI) (kT cI cJ cB) [.ref h_this, .int p1, .int p2] [cl_X10 h_this h_this_dayAt h_this_secondAt h_this_spans h_this_kept h_this_text h_this_row h_this_read h_this_many h_this_first h_this_lengths h_this_page i_this j_this, (h_this_dayAt, .inl (cI, 8, .inl f_this_dayAt)), (h_this_row, .inl (cJ, 16, .inr (.inl f_this_row)))] [cl_X10 h_this h_this_dayAt h_this_secondAt h_this_spans h_this_kept h_this_text h_this_row h_this_read h_this_many h_this_first h_this_lengths h_this_page o_i_this j_this, (h_this_dayAt, .inl (cI, 8, .inl f_this_dayAt)), (h_this_row, .inl (cJ, 16, .inr (.inl o_f_this_row)))] r := by
  refine MI.of (cc := cX10_again) (maxL := 5) (by decide) (Nat.le_of_ble_eq_true rfl) (fun p e s m args below meth c A Q ls KC hN hK hP hD hA hl hEnd => ?_)
  obtain ⟨hx, hb, hml, hown, hts⟩ := KC
  have hown : s.vm.findClass "DateSpansModel" = some m.cls := hown
  have hl : lv_has ls 5 [(0, .ref h_this), (1, .int p1), (2, .int p2)] := hl
  have hS : va_S A s.heap s.heap [] := va_S.rf
  have JN_86 : ∀ (v3 : Int32) (v4 : Int32) (i_this : Nat → Int32) (f_this_row : Nat → Int64) (ls : Array Slot) (H : Heap) (locs : List Loc), (fX10_again_j86 N j_this f_this_dayAt) v3 v4 i_this f_this_row = some (r, o_i_this, o_f_this_row) → lv_has ls 5 [(0, .ref h_this), (3, .int v3), (4, .int v4)] → va_P (dC, dI) vwCl [cl_X10 h_this h_this_dayAt h_this_secondAt h_this_spans h_this_kept h_this_text h_this_row h_this_read h_this_many h_this_first h_this_lengths h_this_page i_this j_this, (h_this_dayAt, .inl (cI, 8, .inl f_this_dayAt)), (h_this_row, .inl (cJ, 16, .inr (.inl f_this_row)))] H → va_D A [cl_X10 h_this h_this_dayAt h_this_secondAt h_this_spans h_this_kept h_this_text h_this_row h_this_read h_this_many h_this_first h_this_lengths h_this_page i_this j_this, (h_this_dayAt, .inl (cI, 8, .inl f_this_dayAt)), (h_this_row, .inl (cJ, 16, .inr (.inl f_this_row)))] → va_S A s.heap H locs → W p l e (kR 3 66) s m args below meth c H locs 0 0 Q (F0 m 86 ls []) := by
    intro v3 v4 i_this f_this_row ls H locs h hl hP hD hS
    unfold fX10_again_j86 at h
    refine lv_iload_n hx hb dX10_again_86 rfl (lv_at hl 1 rfl) ?_
    refine lv_if_le (tgt := 93) hx hb dX10_again_87 (by decide) (fun c1 => ?_) (fun c1 => ?_)
    · have h := ite_t c1 h
      refine lv_aload_n hx hb dX10_again_93 rfl (lv_at hl 0 rfl) ?_
      refine lv_iconst (v := (0 : Int32)) hx hb dX10_again_94 (by decide) ?_
      refine va_put (D := (dC, dI)) (ci := 9) (v := .int (0 : Int32)) (ty := .int) (C := RX10) (T := TX10) (N := 29) hx hb hts inX10 tyX10 tyX10_ok nmX10 hown hK hP hD hS 0 rfl rfl 8 (by decide) (hts _ (kq q_994 rfl)) (fun _ h9 => h9) rfl (by decide +kernel) rfl rfl (Nat.le_of_ble_eq_true rfl) dX10_again_95 (fun H locs hP hD hS => ?_)
      have hP : va_P (dC, dI) vwCl [(h_this, .inr (9, [.ref h_this_dayAt, .ref h_this_secondAt, .ref h_this_spans, .ref h_this_kept, .int (i_this 4), .ref h_this_text, .int (i_this 6), .ref h_this_row, .int (0 : Int32), .int (i_this 9), .int (i_this 10), .int (i_this 11), .int (i_this 12), .int (i_this 13), .int (i_this 14), .int (i_this 15), .int (i_this 16), .int (i_this 17), .int (i_this 18), .ref h_this_read, .long (j_this 20), .ref h_this_many, .ref h_this_first, .ref h_this_lengths, .int (i_this 24), .long (j_this 25), .long (j_this 26), .ref h_this_page, .int (i_this 28)])), (h_this_dayAt, .inl (cI, 8, .inl f_this_dayAt)), (h_this_row, .inl (cJ, 16, .inr (.inl f_this_row)))] H := hP
      have hD : va_D A [(h_this, .inr (9, [.ref h_this_dayAt, .ref h_this_secondAt, .ref h_this_spans, .ref h_this_kept, .int (i_this 4), .ref h_this_text, .int (i_this 6), .ref h_this_row, .int (0 : Int32), .int (i_this 9), .int (i_this 10), .int (i_this 11), .int (i_this 12), .int (i_this 13), .int (i_this 14), .int (i_this 15), .int (i_this 16), .int (i_this 17), .int (i_this 18), .ref h_this_read, .long (j_this 20), .ref h_this_many, .ref h_this_first, .ref h_this_lengths, .int (i_this 24), .long (j_this 25), .long (j_this 26), .ref h_this_page, .int (i_this 28)])), (h_this_dayAt, .inl (cI, 8, .inl f_this_dayAt)), (h_this_row, .inl (cJ, 16, .inr (.inl f_this_row)))] := hD
      refine lv_aload_n hx hb dX10_again_98 rfl (lv_at hl 0 rfl) ?_
      refine lv_iload hx hb dX10_again_99 (lv_at hl 2 rfl) ?_
      refine lv_i2l hx hb dX10_again_101 rfl ?_
      have hP : va_P (dC, dI) vwCl [cl_X10 h_this h_this_dayAt h_this_secondAt h_this_spans h_this_kept h_this_text h_this_row h_this_read h_this_many h_this_first h_this_lengths h_this_page (upd i_this 8 (0 : Int32)) j_this, (h_this_dayAt, .inl (cI, 8, .inl f_this_dayAt)), (h_this_row, .inl (cJ, 16, .inr (.inl f_this_row)))] H := hP
      have hD : va_D A [cl_X10 h_this h_this_dayAt h_this_secondAt h_this_spans h_this_kept h_this_text h_this_row h_this_read h_this_many h_this_first h_this_lengths h_this_page (upd i_this 8 (0 : Int32)) j_this, (h_this_dayAt, .inl (cI, 8, .inl f_this_dayAt)), (h_this_row, .inl (cJ, 16, .inr (.inl f_this_row)))] := hD
      obtain ⟨i_this_2, f_this_row_3, hc4, h⟩ := bd2_at h
      refine kjV (kV (own := "DateSpansModel") (C := "DateSpansModel") (b := h_this) (As := [.long v4.toInt64]) (rest := []) ⟨hx, hb, hml, hown, hts⟩ (kX10_tell l dC dI cI cJ cB h_this h_this_dayAt h_this_secondAt h_this_spans h_this_kept h_this_text h_this_row h_this_read h_this_many h_this_first h_this_lengths h_this_page N v4.toInt64 (upd i_this 8 (0 : Int32)) j_this f_this_row i_this_2 f_this_row_3 hc4 _) (kgV (kq q_1221 rfl) (kq q_1223 rfl) (kq q_29 rfl) (kq q_66 rfl) (kq q_1224 rfl)) yd_X10_tell ⟨Nat.le_of_ble_eq_true rfl, Nat.le_of_ble_eq_true rfl⟩ hN hK hP hD [0, 2] rfl rfl (ci := 9) rfl rfl rfl rfl rfl hl.1 rfl (lv_room (Nat.le_of_ble_eq_true rfl)) dX10_again_102) hP hD hS hA [0, 2] rfl rfl (fun H locs hP hD hS => ?_)
      have hP : va_P (dC, dI) vwCl [cl_X10 h_this h_this_dayAt h_this_secondAt h_this_spans h_this_kept h_this_text h_this_row h_this_read h_this_many h_this_first h_this_lengths h_this_page i_this_2 j_this, (h_this_dayAt, .inl (cI, 8, .inl f_this_dayAt)), (h_this_row, .inl (cJ, 16, .inr (.inl f_this_row_3)))] H := hP
      have hD : va_D A [cl_X10 h_this h_this_dayAt h_this_secondAt h_this_spans h_this_kept h_this_text h_this_row h_this_read h_this_many h_this_first h_this_lengths h_this_page i_this_2 j_this, (h_this_dayAt, .inl (cI, 8, .inl f_this_dayAt)), (h_this_row, .inl (cJ, 16, .inr (.inl f_this_row_3)))] := hD
      refine lv_iload hx hb dX10_again_105 (lv_at hl 2 rfl) ?_
      refine lv_aload_n hx hb dX10_again_107 rfl (lv_at hl 0 rfl) ?_
      refine va_get (D := (dC, dI)) (ci := 9) (v := .int (i_this_2 11)) (C := RX10) (T := TX10) (N := 29) hx hb hts inX10 hown hK hP 0 rfl rfl 11 (by decide) (hts _ (kq q_997 rfl)) (fun _ h9 => h9) rfl dX10_again_108 ?_
      refine lv_aload_n hx hb dX10_again_111 rfl (lv_at hl 0 rfl) ?_
      refine va_get (D := (dC, dI)) (ci := 9) (v := .int (i_this_2 12)) (C := RX10) (T := TX10) (N := 29) hx hb hts inX10 hown hK hP 0 rfl rfl 12 (by decide) (hts _ (kq q_998 rfl)) (fun _ h9 => h9) rfl dX10_again_112 ?_
      obtain ⟨r5, hc6, h⟩ := bd1_at h
      refine kjSI (kS0 (own := "DateSpansModel") (As := [.int v4, .int (i_this_2 11), .int (i_this_2 12)]) (rest := []) ⟨hx, hb, hml, hown, hts⟩ (kX10_dayOf l N v4 (i_this_2 11) (i_this_2 12) r5 hc6) (kgS (kq q_1127 rfl) (kq q_1128 rfl) (kq q_66 rfl) (kq q_1129 rfl)) yd_X10_dayOf ⟨Nat.le_of_ble_eq_true rfl, Nat.le_of_ble_eq_true rfl⟩ rfl rfl hl.1 rfl (lv_room (Nat.le_of_ble_eq_true rfl)) dX10_again_115) ?_
      obtain ⟨rfl, rfl, rfl⟩ := pj3 h
      exact hEnd _ _ _ _ hP hS dX10_again_118 rfl
    have h := ite_f c1 h
    refine lv_bipush (v := (-2 : Int32)) hx hb dX10_again_90 (by decide) ?_
    obtain ⟨rfl, rfl, rfl⟩ := pj3 h
    exact hEnd _ _ _ _ hP hS dX10_again_92 rfl
  have LP_44 : ∀ n_44 : Nat, ∀ (v3 : Int32) (v4 : Int32) (i_this : Nat → Int32) (f_this_row : Nat → Int64) (ls : Array Slot) (H : Heap) (locs : List Loc), fX10_again_l44 N j_this f_this_dayAt n_44 v3 v4 i_this f_this_row = some (r, o_i_this, o_f_this_row) → lv_has ls 5 [(0, .ref h_this), (3, .int v3), (4, .int v4)] → va_P (dC, dI) vwCl [cl_X10 h_this h_this_dayAt h_this_secondAt h_this_spans h_this_kept h_this_text h_this_row h_this_read h_this_many h_this_first h_this_lengths h_this_page i_this j_this, (h_this_dayAt, .inl (cI, 8, .inl f_this_dayAt)), (h_this_row, .inl (cJ, 16, .inr (.inl f_this_row)))] H → va_D A [cl_X10 h_this h_this_dayAt h_this_secondAt h_this_spans h_this_kept h_this_text h_this_row h_this_read h_this_many h_this_first h_this_lengths h_this_page i_this j_this, (h_this_dayAt, .inl (cI, 8, .inl f_this_dayAt)), (h_this_row, .inl (cJ, 16, .inr (.inl f_this_row)))] → va_S A s.heap H locs → W p l e (kR 3 66) s m args below meth c H locs 0 0 Q (F0 m 44 ls []) := by
    intro n_44
    induction n_44 with
    | zero =>
      intro v3 v4 i_this f_this_row ls H locs h hl hP hD hS
      rw [fX10_again_l44_0] at h; cases h
    | succ n_44 ih_44 =>
      intro v3 v4 i_this f_this_row ls H locs h hl hP hD hS
      rw [fX10_again_l44_s] at h
      refine lv_iload_n hx hb dX10_again_44 rfl (lv_at hl 1 rfl) ?_
      refine lv_if_le (tgt := 86) hx hb dX10_again_45 (by decide) (fun c7 => ?_) (fun c7 => ?_)
      · have h := ite_t c7 h
        exact JN_86 _ _ _ _ _ _ _ h (lv_sub hl [0, 1, 2] rfl) hP hD hS
      have h := ite_f c7 h
      refine lv_iload hx hb dX10_again_48 (lv_at hl 2 rfl) ?_
      refine lv_sipush (v := (9999 : Int32)) hx hb dX10_again_50 (by decide) ?_
      refine lv_icmp_ge (tgt := 86) hx hb dX10_again_53 (by decide) (fun c8 => ?_) (fun c8 => ?_)
      · have h := ite_t c8 h
        exact JN_86 _ _ _ _ _ _ _ h (lv_sub hl [0, 1, 2] rfl) hP hD hS
      have h := ite_f c8 h
      obtain ⟨z9, ez9⟩ : ∃ y : Int32, y = (v4 + (1 : Int32)) := ⟨_, rfl⟩
      have h := nm_at ez9 h
      refine lv_iinc (v := z9) (lv' := [(4, .int z9), (0, .ref h_this), (3, .int v3)]) hx hb dX10_again_56 hl (k := 2) rfl (by rw [ez9]; rfl) (by decide) rfl (fun ls hl => ?_)
      refine lv_iload_n hx hb dX10_again_59 rfl (lv_at hl 2 rfl) ?_
      refine lv_aload_n hx hb dX10_again_60 rfl (lv_at hl 1 rfl) ?_
      refine va_get (D := (dC, dI)) (ci := 9) (v := .int (i_this 12)) (C := RX10) (T := TX10) (N := 29) hx hb hts inX10 hown hK hP 0 rfl rfl 12 (by decide) (hts _ (kq q_998 rfl)) (fun _ h9 => h9) rfl dX10_again_61 ?_
      refine lv_iload hx hb dX10_again_64 (lv_at hl 0 rfl) ?_
      refine lv_aload_n hx hb dX10_again_66 rfl (lv_at hl 1 rfl) ?_
      refine va_get (D := (dC, dI)) (ci := 9) (v := .int (i_this 11)) (C := RX10) (T := TX10) (N := 29) hx hb hts inX10 hown hK hP 0 rfl rfl 11 (by decide) (hts _ (kq q_997 rfl)) (fun _ h9 => h9) rfl dX10_again_67 ?_
      obtain ⟨r10, hc11, h⟩ := bd1_at h
      refine kjSI (kS0 (own := "DateSpansModel") (As := [.int z9, .int (i_this 11)]) (rest := [.int (i_this 12), .int v3]) ⟨hx, hb, hml, hown, hts⟩ (kX10_monthDays l N z9 (i_this 11) r10 hc11) (kgS (kq q_1117 rfl) (kq q_1118 rfl) (kq q_66 rfl) (kq q_1119 rfl)) yd_X10_monthDays ⟨Nat.le_of_ble_eq_true rfl, Nat.le_of_ble_eq_true rfl⟩ rfl rfl hl.1 rfl (lv_room (Nat.le_of_ble_eq_true rfl)) dX10_again_70) ?_
      refine lv_icmp_gt (tgt := 80) hx hb dX10_again_73 (by decide) (fun c12 => ?_) (fun c12 => ?_)
      · have h := ite_t c12 h
        refine lv_iconst (v := (0 : Int32)) hx hb dX10_again_80 (by decide) ?_
        refine lv_isub hx hb dX10_again_81 ?_
        refine lv_topi (fun z13 ez13 => ?_)
        have h := nm_at ez13 h
        refine lv_istore_n (lv' := [(3, .int z13), (4, .int z9), (0, .ref h_this)]) hx hb dX10_again_82 rfl hl (by decide) rfl (fun ls hl => ?_)
        refine lv_goto (tgt := 44) hx hb dX10_again_83 (by decide) ?_
        exact ih_44 _ _ _ _ _ _ _ h (lv_sub hl [2, 0, 1] rfl) hP hD hS
      have h := ite_f c12 h
      refine lv_iconst (v := (1 : Int32)) hx hb dX10_again_76 (by decide) ?_
      refine lv_goto (tgt := 81) hx hb dX10_again_77 (by decide) ?_
      refine lv_isub hx hb dX10_again_81 ?_
      refine lv_topi (fun z14 ez14 => ?_)
      have h := nm_at ez14 h
      refine lv_istore_n (lv' := [(3, .int z14), (4, .int z9), (0, .ref h_this)]) hx hb dX10_again_82 rfl hl (by decide) rfl (fun ls hl => ?_)
      refine lv_goto (tgt := 44) hx hb dX10_again_83 (by decide) ?_
      exact ih_44 _ _ _ _ _ _ _ h (lv_sub hl [2, 0, 1] rfl) hP hD hS
  have h := hf
  unfold fX10_again at h
  refine lv_aload_n hx hb dX10_again_0 rfl (lv_at hl 0 rfl) ?_
  refine lv_iconst (v := (0 : Int32)) hx hb dX10_again_1 (by decide) ?_
  refine va_put (D := (dC, dI)) (ci := 9) (v := .int (0 : Int32)) (ty := .int) (C := RX10) (T := TX10) (N := 29) hx hb hts inX10 tyX10 tyX10_ok nmX10 hown hK hP hD hS 0 rfl rfl 9 (by decide) (hts _ (kq q_995 rfl)) (fun _ h9 => h9) rfl (by decide +kernel) rfl rfl (Nat.le_of_ble_eq_true rfl) dX10_again_2 (fun H locs hP hD hS => ?_)
  have hP : va_P (dC, dI) vwCl [(h_this, .inr (9, [.ref h_this_dayAt, .ref h_this_secondAt, .ref h_this_spans, .ref h_this_kept, .int (i_this 4), .ref h_this_text, .int (i_this 6), .ref h_this_row, .int (i_this 8), .int (0 : Int32), .int (i_this 10), .int (i_this 11), .int (i_this 12), .int (i_this 13), .int (i_this 14), .int (i_this 15), .int (i_this 16), .int (i_this 17), .int (i_this 18), .ref h_this_read, .long (j_this 20), .ref h_this_many, .ref h_this_first, .ref h_this_lengths, .int (i_this 24), .long (j_this 25), .long (j_this 26), .ref h_this_page, .int (i_this 28)])), (h_this_dayAt, .inl (cI, 8, .inl f_this_dayAt)), (h_this_row, .inl (cJ, 16, .inr (.inl f_this_row)))] H := hP
  have hD : va_D A [(h_this, .inr (9, [.ref h_this_dayAt, .ref h_this_secondAt, .ref h_this_spans, .ref h_this_kept, .int (i_this 4), .ref h_this_text, .int (i_this 6), .ref h_this_row, .int (i_this 8), .int (0 : Int32), .int (i_this 10), .int (i_this 11), .int (i_this 12), .int (i_this 13), .int (i_this 14), .int (i_this 15), .int (i_this 16), .int (i_this 17), .int (i_this 18), .ref h_this_read, .long (j_this 20), .ref h_this_many, .ref h_this_first, .ref h_this_lengths, .int (i_this 24), .long (j_this 25), .long (j_this 26), .ref h_this_page, .int (i_this 28)])), (h_this_dayAt, .inl (cI, 8, .inl f_this_dayAt)), (h_this_row, .inl (cJ, 16, .inr (.inl f_this_row)))] := hD
  refine lv_iload_n hx hb dX10_again_5 rfl (lv_at hl 1 rfl) ?_
  have hP : va_P (dC, dI) vwCl [cl_X10 h_this h_this_dayAt h_this_secondAt h_this_spans h_this_kept h_this_text h_this_row h_this_read h_this_many h_this_first h_this_lengths h_this_page (upd i_this 9 (0 : Int32)) j_this, (h_this_dayAt, .inl (cI, 8, .inl f_this_dayAt)), (h_this_row, .inl (cJ, 16, .inr (.inl f_this_row)))] H := hP
  have hD : va_D A [cl_X10 h_this h_this_dayAt h_this_secondAt h_this_spans h_this_kept h_this_text h_this_row h_this_read h_this_many h_this_first h_this_lengths h_this_page (upd i_this 9 (0 : Int32)) j_this, (h_this_dayAt, .inl (cI, 8, .inl f_this_dayAt)), (h_this_row, .inl (cJ, 16, .inr (.inl f_this_row)))] := hD
  obtain ⟨r15, hc16, h⟩ := bd1_at h
  refine kjSI (kS0 (own := "DateSpansModel") (As := [.int p1]) (rest := []) ⟨hx, hb, hml, hown, hts⟩ (kX10_isSlot l N p1 r15 hc16) (kgS (kq q_1123 rfl) (kq q_1124 rfl) (kq q_66 rfl) (kq q_1125 rfl)) yd_X10_isSlot ⟨Nat.le_of_ble_eq_true rfl, Nat.le_of_ble_eq_true rfl⟩ rfl rfl hl.1 rfl (lv_room (Nat.le_of_ble_eq_true rfl)) dX10_again_6) ?_
  refine lv_if_eq (tgt := 24) hx hb dX10_again_9 (by decide) (fun c17 => ?_) (fun c17 => ?_)
  · have h := ite_t c17 h
    refine lv_iconst (v := (-1 : Int32)) hx hb dX10_again_24 (by decide) ?_
    obtain ⟨rfl, rfl, rfl⟩ := pj3 h
    exact hEnd _ _ _ _ hP hS dX10_again_25 rfl
  have h := ite_f c17 h
  refine lv_iload_n hx hb dX10_again_12 rfl (lv_at hl 2 rfl) ?_
  refine lv_i2l hx hb dX10_again_13 rfl ?_
  refine lv_lconst (v := (1 : Int64)) hx hb dX10_again_14 (by decide) ?_
  refine lv_ldc2 (v := (100 : Int64)) hx hb hown (hts _ (kq q_1436 rfl)) dX10_again_15 ?_
  obtain ⟨r18, hc19, h⟩ := bd1_at h
  refine kjSI (kS0 (own := "DateSpansModel") (As := [.long p2.toInt64, .long (1 : Int64), .long (100 : Int64)]) (rest := []) ⟨hx, hb, hml, hown, hts⟩ (kX10_in l N p2.toInt64 (1 : Int64) (100 : Int64) r18 hc19) (kgS (kq q_1086 rfl) (kq q_1087 rfl) (kq q_66 rfl) (kq q_1088 rfl)) yd_X10_in ⟨Nat.le_of_ble_eq_true rfl, Nat.le_of_ble_eq_true rfl⟩ rfl rfl hl.1 rfl (lv_room (Nat.le_of_ble_eq_true rfl)) dX10_again_18) ?_
  refine lv_if_ne (tgt := 26) hx hb dX10_again_21 (by decide) (fun c20 => ?_) (fun c20 => ?_)
  · have h := ite_f c20 h
    refine lv_aload_n hx hb dX10_again_26 rfl (lv_at hl 0 rfl) ?_
    refine lv_aload_n hx hb dX10_again_27 rfl (lv_at hl 0 rfl) ?_
    refine va_get (D := (dC, dI)) (ci := 9) (v := .ref h_this_dayAt) (C := RX10) (T := TX10) (N := 29) hx hb hts inX10 hown hK hP 0 rfl rfl 0 (by decide) (hts _ (kq q_986 rfl)) (fun _ h9 => h9) rfl dX10_again_28 ?_
    refine lv_iload_n hx hb dX10_again_31 rfl (lv_at hl 1 rfl) ?_
    obtain ⟨hi21, h⟩ := gi_at h
    refine va_iald hx hb hK hP 1 0 rfl rfl hi21 dX10_again_32 ?_
    obtain ⟨i_this_22, hc23, h⟩ := bd1_at h
    refine kjV (kV (own := "DateSpansModel") (C := "DateSpansModel") (b := h_this) (As := [.int (f_this_dayAt p1.toNatClampNeg)]) (rest := []) ⟨hx, hb, hml, hown, hts⟩ (kX10_dates l dC dI cI cJ cB h_this h_this_dayAt h_this_secondAt h_this_spans h_this_kept h_this_text h_this_row h_this_read h_this_many h_this_first h_this_lengths h_this_page N (f_this_dayAt p1.toNatClampNeg) (upd i_this 9 (0 : Int32)) j_this i_this_22 hc23 _) (kgV (kq q_1238 rfl) (kq q_1240 rfl) (kq q_30 rfl) (kq q_66 rfl) (kq q_1241 rfl)) yd_X10_dates ⟨Nat.le_of_ble_eq_true rfl, Nat.le_of_ble_eq_true rfl⟩ hN hK hP hD [0] rfl rfl (ci := 9) rfl rfl rfl rfl rfl hl.1 rfl (lv_room (Nat.le_of_ble_eq_true rfl)) dX10_again_33) hP hD hS hA [0] rfl rfl (fun H locs hP hD hS => ?_)
    have hP : va_P (dC, dI) vwCl [cl_X10 h_this h_this_dayAt h_this_secondAt h_this_spans h_this_kept h_this_text h_this_row h_this_read h_this_many h_this_first h_this_lengths h_this_page i_this_22 j_this, (h_this_dayAt, .inl (cI, 8, .inl f_this_dayAt)), (h_this_row, .inl (cJ, 16, .inr (.inl f_this_row)))] H := hP
    have hD : va_D A [cl_X10 h_this h_this_dayAt h_this_secondAt h_this_spans h_this_kept h_this_text h_this_row h_this_read h_this_many h_this_first h_this_lengths h_this_page i_this_22 j_this, (h_this_dayAt, .inl (cI, 8, .inl f_this_dayAt)), (h_this_row, .inl (cJ, 16, .inr (.inl f_this_row)))] := hD
    refine lv_iload_n hx hb dX10_again_36 rfl (lv_at hl 2 rfl) ?_
    refine lv_istore_n (lv' := [(3, .int p2), (0, .ref h_this), (1, .int p1), (2, .int p2)]) hx hb dX10_again_37 rfl hl (by decide) rfl (fun ls hl => ?_)
    refine lv_aload_n hx hb dX10_again_38 rfl (lv_at hl 1 rfl) ?_
    refine va_get (D := (dC, dI)) (ci := 9) (v := .int (i_this_22 10)) (C := RX10) (T := TX10) (N := 29) hx hb hts inX10 hown hK hP 0 rfl rfl 10 (by decide) (hts _ (kq q_996 rfl)) (fun _ h9 => h9) rfl dX10_again_39 ?_
    refine lv_topi (fun z24 ez24 => ?_)
    have h := nm_at ez24 h
    refine lv_istore (lv' := [(4, .int z24), (3, .int p2), (0, .ref h_this), (1, .int p1), (2, .int p2)]) hx hb dX10_again_42 hl (by decide) rfl (fun ls hl => ?_)
    exact LP_44 N _ _ _ _ _ _ _ h (lv_sub hl [2, 1, 0] rfl) hP hD hS
  have h := ite_t c20 h
  refine lv_iconst (v := (-1 : Int32)) hx hb dX10_again_24 (by decide) ?_
  obtain ⟨rfl, rfl, rfl⟩ := pj3 h
  exact hEnd _ _ _ _ hP hS dX10_again_25 rfl
noncomputable def fX10_whole_j179 (N : Nat) (j_this : Nat → Int64) (f_this_dayAt : Nat → Int32) (v4 : Int32) (v6 : Int32) (v9 : Int32) (t0 : Int64) (i_this : Nat → Int32) (f_this_row : Nat → Int64) : Option (Int32 × (Nat → Int32) × (Nat → Int64)) := (bd2 (fX10_tell N t0 i_this j_this f_this_row) fun i_this_1 f_this_row_2 => (if v9 = (0 : Int32) then (bd2 (fX10_tell N (0 : Int64) i_this_1 j_this f_this_row_2) fun i_this_8 f_this_row_9 => (some (v9, i_this_8, f_this_row_9))) else (bd2 (fX10_tell N ((v4 - v6).toInt64) i_this_1 j_this f_this_row_2) fun i_this_5 f_this_row_6 => (some (v9, i_this_5, f_this_row_6)))))
noncomputable def fX10_whole_j144 (N : Nat) (j_this : Nat → Int64) (f_this_dayAt : Nat → Int32) (v3 : Int32) (v4 : Int32) (v5 : Int32) (v6 : Int32) (v7 : Int32) (v8 : Int32) (i_this : Nat → Int32) (f_this_row : Nat → Int64) : Option (Int32 × (Nat → Int32) × (Nat → Int64)) := (nm (if (0 : Int32) < (v5 - v7) then (v5 - v7) else (0 : Int32)) fun z11 => (if z11 = (0 : Int32) then (fX10_whole_j179 N j_this f_this_dayAt v4 v6 z11 ((v4 - v3).toInt64) (upd i_this 8 (0 : Int32)) f_this_row) else (fX10_whole_j179 N j_this f_this_dayAt v4 v6 z11 ((v8 - v3).toInt64) (upd i_this 8 (0 : Int32)) f_this_row)))
noncomputable def fX10_whole (N : Nat) (p1 : Int32) (p2 : Int32) (i_this : Nat → Int32) (j_this : Nat → Int64) (f_this_dayAt : Nat → Int32) (f_this_row : Nat → Int64) : Option (Int32 × (Nat → Int32) × (Nat → Int64)) := (bd1 (fX10_isSlot N p1) fun r13 => (if r13 = (0 : Int32) then (some ((-1 : Int32), (upd i_this 9 (0 : Int32)), f_this_row)) else (bd1 (fX10_isSlot N p2) fun r16 => (if r16 = (0 : Int32) then (some ((-1 : Int32), (upd i_this 9 (0 : Int32)), f_this_row)) else (gi p1 8 (gi p2 8 (nm (if (f_this_dayAt p2.toNatClampNeg) < (f_this_dayAt p1.toNatClampNeg) then (f_this_dayAt p2.toNatClampNeg) else (f_this_dayAt p1.toNatClampNeg)) fun z21 => (gi p1 8 (gi p2 8 (nm (if (f_this_dayAt p1.toNatClampNeg) < (f_this_dayAt p2.toNatClampNeg) then (f_this_dayAt p2.toNatClampNeg) else (f_this_dayAt p1.toNatClampNeg)) fun z24 => (bd1 (fX10_dates N z24 (upd i_this 9 (0 : Int32)) j_this) fun i_this_25 => (nm ((((12 : Int32) * (i_this_25 10)) + (i_this_25 11)) - (1 : Int32)) fun z27 => (nm ((z24 - (i_this_25 12)) + (1 : Int32)) fun z28 => (bd1 (fX10_dates N z21 i_this_25 j_this) fun i_this_29 => (nm ((((12 : Int32) * (i_this_29 10)) + (i_this_29 11)) - (1 : Int32)) fun z31 => (if (i_this_29 12) ≤ (1 : Int32) then (fX10_whole_j144 N j_this f_this_dayAt z21 z24 z27 z28 z31 z21 i_this_29 f_this_row) else (bd1 (fX10_monthDays N (i_this_29 10) (i_this_29 11)) fun r33 => (nm (((z21 - (i_this_29 12)) + (1 : Int32)) + r33) fun z35 => (nm (z31 + (1 : Int32)) fun z36 => (fX10_whole_j144 N j_this f_this_dayAt z21 z24 z27 z28 z36 z35 i_this_29 f_this_row))))))))))))))))))))
set_option maxHeartbeats 4000000 in
set_option maxRecDepth 100000 in
theorem kX10_whole (l : Launch) (dC : Nat → ClassId) (dI : Nat → Nat → Nat) (cI cJ cB : ClassId) (h_this h_this_dayAt h_this_secondAt h_this_spans h_this_kept h_this_text h_this_row h_this_read h_this_many h_this_first h_this_lengths h_this_page : Nat) (N : Nat) (p1 : Int32) (p2 : Int32) (i_this : Nat → Int32) (j_this : Nat → Int64) (f_this_dayAt : Nat → Int32) (f_this_row : Nat → Int64) (r : Int32) (o_i_this : Nat → Int32) (o_f_this_row : Nat → Int64) (hf : fX10_whole N p1 p2 i_this j_this f_this_dayAt f_this_row = some (r, o_i_this, o_f_this_row)) : MI l yX10_whole (kws yX10_whole cX10_whole 10 (some .int)) (kR 3 66) (dC, dI) (kT cI cJ cB) [.ref h_this, .int p1, .int p2] [cl_X10 h_this h_this_dayAt h_this_secondAt h_this_spans h_this_kept h_this_text h_this_row h_this_read h_this_many h_this_first h_this_lengths h_this_page i_this j_this, (h_this_dayAt, .inl (cI, 8, .inl f_this_dayAt)), (h_this_row, .inl (cJ, 16, .inr (.inl f_this_row)))] [cl_X10 h_this h_this_dayAt h_this_secondAt h_this_spans h_this_kept h_this_text h_this_row h_this_read h_this_many h_this_first h_this_lengths h_this_page o_i_this j_this, (h_this_dayAt, .inl (cI, 8, .inl f_this_dayAt)), (h_this_row, .inl (cJ, 16, .inr (.inl o_f_this_row)))] r := by
  refine MI.of (cc := cX10_whole) (maxL := 10) (by decide) (Nat.le_of_ble_eq_true rfl) (fun p e s m args below meth c A Q ls KC hN hK hP hD hA hl hEnd => ?_)
  obtain ⟨hx, hb, hml, hown, hts⟩ := KC
  have hown : s.vm.findClass "DateSpansModel" = some m.cls := hown
  have hl : lv_has ls 10 [(0, .ref h_this), (1, .int p1), (2, .int p2)] := hl
  have hS : va_S A s.heap s.heap [] := va_S.rf
  have JN_179 : ∀ (v4 : Int32) (v6 : Int32) (v9 : Int32) (t0 : Int64) (i_this : Nat → Int32) (f_this_row : Nat → Int64) (ls : Array Slot) (H : Heap) (locs : List Loc), (fX10_whole_j179 N j_this f_this_dayAt) v4 v6 v9 t0 i_this f_this_row = some (r, o_i_this, o_f_this_row) → lv_has ls 10 [(0, .ref h_this), (4, .int v4), (6, .int v6), (9, .int v9)] → va_P (dC, dI) vwCl [cl_X10 h_this h_this_dayAt h_this_secondAt h_this_spans h_this_kept h_this_text h_this_row h_this_read h_this_many h_this_first h_this_lengths h_this_page i_this j_this, (h_this_dayAt, .inl (cI, 8, .inl f_this_dayAt)), (h_this_row, .inl (cJ, 16, .inr (.inl f_this_row)))] H → va_D A [cl_X10 h_this h_this_dayAt h_this_secondAt h_this_spans h_this_kept h_this_text h_this_row h_this_read h_this_many h_this_first h_this_lengths h_this_page i_this j_this, (h_this_dayAt, .inl (cI, 8, .inl f_this_dayAt)), (h_this_row, .inl (cJ, 16, .inr (.inl f_this_row)))] → va_S A s.heap H locs → W p l e (kR 3 66) s m args below meth c H locs 0 0 Q (F0 m 179 ls [.long t0, .ref h_this]) := by
    intro v4 v6 v9 t0 i_this f_this_row ls H locs h hl hP hD hS
    unfold fX10_whole_j179 at h
    obtain ⟨i_this_1, f_this_row_2, hc3, h⟩ := bd2_at h
    refine kjV (kV (own := "DateSpansModel") (C := "DateSpansModel") (b := h_this) (As := [.long t0]) (rest := []) ⟨hx, hb, hml, hown, hts⟩ (kX10_tell l dC dI cI cJ cB h_this h_this_dayAt h_this_secondAt h_this_spans h_this_kept h_this_text h_this_row h_this_read h_this_many h_this_first h_this_lengths h_this_page N t0 i_this j_this f_this_row i_this_1 f_this_row_2 hc3 _) (kgV (kq q_1221 rfl) (kq q_1223 rfl) (kq q_29 rfl) (kq q_66 rfl) (kq q_1224 rfl)) yd_X10_tell ⟨Nat.le_of_ble_eq_true rfl, Nat.le_of_ble_eq_true rfl⟩ hN hK hP hD [0, 2] rfl rfl (ci := 9) rfl rfl rfl rfl rfl hl.1 rfl (lv_room (Nat.le_of_ble_eq_true rfl)) dX10_whole_179) hP hD hS hA [0, 2] rfl rfl (fun H locs hP hD hS => ?_)
    have hP : va_P (dC, dI) vwCl [cl_X10 h_this h_this_dayAt h_this_secondAt h_this_spans h_this_kept h_this_text h_this_row h_this_read h_this_many h_this_first h_this_lengths h_this_page i_this_1 j_this, (h_this_dayAt, .inl (cI, 8, .inl f_this_dayAt)), (h_this_row, .inl (cJ, 16, .inr (.inl f_this_row_2)))] H := hP
    have hD : va_D A [cl_X10 h_this h_this_dayAt h_this_secondAt h_this_spans h_this_kept h_this_text h_this_row h_this_read h_this_many h_this_first h_this_lengths h_this_page i_this_1 j_this, (h_this_dayAt, .inl (cI, 8, .inl f_this_dayAt)), (h_this_row, .inl (cJ, 16, .inr (.inl f_this_row_2)))] := hD
    refine lv_aload_n hx hb dX10_whole_182 rfl (lv_at hl 0 rfl) ?_
    refine lv_iload hx hb dX10_whole_183 (lv_at hl 3 rfl) ?_
    refine lv_if_ne (tgt := 192) hx hb dX10_whole_185 (by decide) (fun c4 => ?_) (fun c4 => ?_)
    · have h := ite_f c4 h
      refine lv_iload hx hb dX10_whole_192 (lv_at hl 1 rfl) ?_
      refine lv_iload hx hb dX10_whole_194 (lv_at hl 2 rfl) ?_
      refine lv_isub hx hb dX10_whole_196 ?_
      refine lv_i2l hx hb dX10_whole_197 rfl ?_
      obtain ⟨i_this_5, f_this_row_6, hc7, h⟩ := bd2_at h
      refine kjV (kV (own := "DateSpansModel") (C := "DateSpansModel") (b := h_this) (As := [.long ((v4 - v6).toInt64)]) (rest := []) ⟨hx, hb, hml, hown, hts⟩ (kX10_tell l dC dI cI cJ cB h_this h_this_dayAt h_this_secondAt h_this_spans h_this_kept h_this_text h_this_row h_this_read h_this_many h_this_first h_this_lengths h_this_page N ((v4 - v6).toInt64) i_this_1 j_this f_this_row_2 i_this_5 f_this_row_6 hc7 _) (kgV (kq q_1221 rfl) (kq q_1223 rfl) (kq q_29 rfl) (kq q_66 rfl) (kq q_1224 rfl)) yd_X10_tell ⟨Nat.le_of_ble_eq_true rfl, Nat.le_of_ble_eq_true rfl⟩ hN hK hP hD [0, 2] rfl rfl (ci := 9) rfl rfl rfl rfl rfl hl.1 rfl (lv_room (Nat.le_of_ble_eq_true rfl)) dX10_whole_198) hP hD hS hA [0, 2] rfl rfl (fun H locs hP hD hS => ?_)
      have hP : va_P (dC, dI) vwCl [cl_X10 h_this h_this_dayAt h_this_secondAt h_this_spans h_this_kept h_this_text h_this_row h_this_read h_this_many h_this_first h_this_lengths h_this_page i_this_5 j_this, (h_this_dayAt, .inl (cI, 8, .inl f_this_dayAt)), (h_this_row, .inl (cJ, 16, .inr (.inl f_this_row_6)))] H := hP
      have hD : va_D A [cl_X10 h_this h_this_dayAt h_this_secondAt h_this_spans h_this_kept h_this_text h_this_row h_this_read h_this_many h_this_first h_this_lengths h_this_page i_this_5 j_this, (h_this_dayAt, .inl (cI, 8, .inl f_this_dayAt)), (h_this_row, .inl (cJ, 16, .inr (.inl f_this_row_6)))] := hD
      refine lv_iload hx hb dX10_whole_201 (lv_at hl 3 rfl) ?_
      obtain ⟨rfl, rfl, rfl⟩ := pj3 h
      exact hEnd _ _ _ _ hP hS dX10_whole_203 rfl
    have h := ite_t c4 h
    refine lv_lconst (v := (0 : Int64)) hx hb dX10_whole_188 (by decide) ?_
    refine lv_goto (tgt := 198) hx hb dX10_whole_189 (by decide) ?_
    obtain ⟨i_this_8, f_this_row_9, hc10, h⟩ := bd2_at h
    refine kjV (kV (own := "DateSpansModel") (C := "DateSpansModel") (b := h_this) (As := [.long (0 : Int64)]) (rest := []) ⟨hx, hb, hml, hown, hts⟩ (kX10_tell l dC dI cI cJ cB h_this h_this_dayAt h_this_secondAt h_this_spans h_this_kept h_this_text h_this_row h_this_read h_this_many h_this_first h_this_lengths h_this_page N (0 : Int64) i_this_1 j_this f_this_row_2 i_this_8 f_this_row_9 hc10 _) (kgV (kq q_1221 rfl) (kq q_1223 rfl) (kq q_29 rfl) (kq q_66 rfl) (kq q_1224 rfl)) yd_X10_tell ⟨Nat.le_of_ble_eq_true rfl, Nat.le_of_ble_eq_true rfl⟩ hN hK hP hD [0, 2] rfl rfl (ci := 9) rfl rfl rfl rfl rfl hl.1 rfl (lv_room (Nat.le_of_ble_eq_true rfl)) dX10_whole_198) hP hD hS hA [0, 2] rfl rfl (fun H locs hP hD hS => ?_)
    have hP : va_P (dC, dI) vwCl [cl_X10 h_this h_this_dayAt h_this_secondAt h_this_spans h_this_kept h_this_text h_this_row h_this_read h_this_many h_this_first h_this_lengths h_this_page i_this_8 j_this, (h_this_dayAt, .inl (cI, 8, .inl f_this_dayAt)), (h_this_row, .inl (cJ, 16, .inr (.inl f_this_row_9)))] H := hP
    have hD : va_D A [cl_X10 h_this h_this_dayAt h_this_secondAt h_this_spans h_this_kept h_this_text h_this_row h_this_read h_this_many h_this_first h_this_lengths h_this_page i_this_8 j_this, (h_this_dayAt, .inl (cI, 8, .inl f_this_dayAt)), (h_this_row, .inl (cJ, 16, .inr (.inl f_this_row_9)))] := hD
    refine lv_iload hx hb dX10_whole_201 (lv_at hl 3 rfl) ?_
    obtain ⟨rfl, rfl, rfl⟩ := pj3 h
    exact hEnd _ _ _ _ hP hS dX10_whole_203 rfl
  have JN_144 : ∀ (v3 : Int32) (v4 : Int32) (v5 : Int32) (v6 : Int32) (v7 : Int32) (v8 : Int32) (i_this : Nat → Int32) (f_this_row : Nat → Int64) (ls : Array Slot) (H : Heap) (locs : List Loc), (fX10_whole_j144 N j_this f_this_dayAt) v3 v4 v5 v6 v7 v8 i_this f_this_row = some (r, o_i_this, o_f_this_row) → lv_has ls 10 [(0, .ref h_this), (3, .int v3), (4, .int v4), (5, .int v5), (6, .int v6), (7, .int v7), (8, .int v8)] → va_P (dC, dI) vwCl [cl_X10 h_this h_this_dayAt h_this_secondAt h_this_spans h_this_kept h_this_text h_this_row h_this_read h_this_many h_this_first h_this_lengths h_this_page i_this j_this, (h_this_dayAt, .inl (cI, 8, .inl f_this_dayAt)), (h_this_row, .inl (cJ, 16, .inr (.inl f_this_row)))] H → va_D A [cl_X10 h_this h_this_dayAt h_this_secondAt h_this_spans h_this_kept h_this_text h_this_row h_this_read h_this_many h_this_first h_this_lengths h_this_page i_this j_this, (h_this_dayAt, .inl (cI, 8, .inl f_this_dayAt)), (h_this_row, .inl (cJ, 16, .inr (.inl f_this_row)))] → va_S A s.heap H locs → W p l e (kR 3 66) s m args below meth c H locs 0 0 Q (F0 m 144 ls []) := by
    intro v3 v4 v5 v6 v7 v8 i_this f_this_row ls H locs h hl hP hD hS
    unfold fX10_whole_j144 at h
    refine lv_iconst (v := (0 : Int32)) hx hb dX10_whole_144 (by decide) ?_
    refine lv_iload hx hb dX10_whole_145 (lv_at hl 3 rfl) ?_
    refine lv_iload hx hb dX10_whole_147 (lv_at hl 5 rfl) ?_
    refine lv_isub hx hb dX10_whole_149 ?_
    refine va_mmax (rest := []) hx hb (hml.trans hl.1.symm) hown (hts _ (kq q_1299 rfl)) (hts _ (kq q_569 rfl)) (hts _ (kq q_72 rfl)) (hts _ (kq q_570 rfl)) (Nat.le_of_ble_eq_true rfl) (Nat.le_of_ble_eq_true rfl) (Nat.zero_le _) (Nat.zero_le _) dX10_whole_150 ?_
    refine lv_topi (fun z11 ez11 => ?_)
    have h := nm_at ez11 h
    refine lv_istore (lv' := [(9, .int z11), (0, .ref h_this), (3, .int v3), (4, .int v4), (5, .int v5), (6, .int v6), (7, .int v7), (8, .int v8)]) hx hb dX10_whole_153 hl (by decide) rfl (fun ls hl => ?_)
    refine lv_aload_n hx hb dX10_whole_155 rfl (lv_at hl 1 rfl) ?_
    refine lv_iconst (v := (0 : Int32)) hx hb dX10_whole_156 (by decide) ?_
    refine va_put (D := (dC, dI)) (ci := 9) (v := .int (0 : Int32)) (ty := .int) (C := RX10) (T := TX10) (N := 29) hx hb hts inX10 tyX10 tyX10_ok nmX10 hown hK hP hD hS 0 rfl rfl 8 (by decide) (hts _ (kq q_994 rfl)) (fun _ h9 => h9) rfl (by decide +kernel) rfl rfl (Nat.le_of_ble_eq_true rfl) dX10_whole_157 (fun H locs hP hD hS => ?_)
    have hP : va_P (dC, dI) vwCl [(h_this, .inr (9, [.ref h_this_dayAt, .ref h_this_secondAt, .ref h_this_spans, .ref h_this_kept, .int (i_this 4), .ref h_this_text, .int (i_this 6), .ref h_this_row, .int (0 : Int32), .int (i_this 9), .int (i_this 10), .int (i_this 11), .int (i_this 12), .int (i_this 13), .int (i_this 14), .int (i_this 15), .int (i_this 16), .int (i_this 17), .int (i_this 18), .ref h_this_read, .long (j_this 20), .ref h_this_many, .ref h_this_first, .ref h_this_lengths, .int (i_this 24), .long (j_this 25), .long (j_this 26), .ref h_this_page, .int (i_this 28)])), (h_this_dayAt, .inl (cI, 8, .inl f_this_dayAt)), (h_this_row, .inl (cJ, 16, .inr (.inl f_this_row)))] H := hP
    have hD : va_D A [(h_this, .inr (9, [.ref h_this_dayAt, .ref h_this_secondAt, .ref h_this_spans, .ref h_this_kept, .int (i_this 4), .ref h_this_text, .int (i_this 6), .ref h_this_row, .int (0 : Int32), .int (i_this 9), .int (i_this 10), .int (i_this 11), .int (i_this 12), .int (i_this 13), .int (i_this 14), .int (i_this 15), .int (i_this 16), .int (i_this 17), .int (i_this 18), .ref h_this_read, .long (j_this 20), .ref h_this_many, .ref h_this_first, .ref h_this_lengths, .int (i_this 24), .long (j_this 25), .long (j_this 26), .ref h_this_page, .int (i_this 28)])), (h_this_dayAt, .inl (cI, 8, .inl f_this_dayAt)), (h_this_row, .inl (cJ, 16, .inr (.inl f_this_row)))] := hD
    refine lv_aload_n hx hb dX10_whole_160 rfl (lv_at hl 1 rfl) ?_
    refine lv_iload hx hb dX10_whole_161 (lv_at hl 0 rfl) ?_
    refine lv_if_ne (tgt := 174) hx hb dX10_whole_163 (by decide) (fun c12 => ?_) (fun c12 => ?_)
    · have h := ite_f c12 h
      refine lv_iload hx hb dX10_whole_174 (lv_at hl 7 rfl) ?_
      refine lv_iload_n hx hb dX10_whole_176 rfl (lv_at hl 2 rfl) ?_
      refine lv_isub hx hb dX10_whole_177 ?_
      refine lv_i2l hx hb dX10_whole_178 rfl ?_
      have hP : va_P (dC, dI) vwCl [cl_X10 h_this h_this_dayAt h_this_secondAt h_this_spans h_this_kept h_this_text h_this_row h_this_read h_this_many h_this_first h_this_lengths h_this_page (upd i_this 8 (0 : Int32)) j_this, (h_this_dayAt, .inl (cI, 8, .inl f_this_dayAt)), (h_this_row, .inl (cJ, 16, .inr (.inl f_this_row)))] H := hP
      have hD : va_D A [cl_X10 h_this h_this_dayAt h_this_secondAt h_this_spans h_this_kept h_this_text h_this_row h_this_read h_this_many h_this_first h_this_lengths h_this_page (upd i_this 8 (0 : Int32)) j_this, (h_this_dayAt, .inl (cI, 8, .inl f_this_dayAt)), (h_this_row, .inl (cJ, 16, .inr (.inl f_this_row)))] := hD
      exact JN_179 _ _ _ _ _ _ _ _ _ h (lv_sub hl [1, 3, 5, 0] rfl) hP hD hS
    have h := ite_t c12 h
    refine lv_iload hx hb dX10_whole_166 (lv_at hl 3 rfl) ?_
    refine lv_iload_n hx hb dX10_whole_168 rfl (lv_at hl 2 rfl) ?_
    refine lv_isub hx hb dX10_whole_169 ?_
    refine lv_i2l hx hb dX10_whole_170 rfl ?_
    refine lv_goto (tgt := 179) hx hb dX10_whole_171 (by decide) ?_
    have hP : va_P (dC, dI) vwCl [cl_X10 h_this h_this_dayAt h_this_secondAt h_this_spans h_this_kept h_this_text h_this_row h_this_read h_this_many h_this_first h_this_lengths h_this_page (upd i_this 8 (0 : Int32)) j_this, (h_this_dayAt, .inl (cI, 8, .inl f_this_dayAt)), (h_this_row, .inl (cJ, 16, .inr (.inl f_this_row)))] H := hP
    have hD : va_D A [cl_X10 h_this h_this_dayAt h_this_secondAt h_this_spans h_this_kept h_this_text h_this_row h_this_read h_this_many h_this_first h_this_lengths h_this_page (upd i_this 8 (0 : Int32)) j_this, (h_this_dayAt, .inl (cI, 8, .inl f_this_dayAt)), (h_this_row, .inl (cJ, 16, .inr (.inl f_this_row)))] := hD
    exact JN_179 _ _ _ _ _ _ _ _ _ h (lv_sub hl [1, 3, 5, 0] rfl) hP hD hS
  have h := hf
  unfold fX10_whole at h
  refine lv_aload_n hx hb dX10_whole_0 rfl (lv_at hl 0 rfl) ?_
  refine lv_iconst (v := (0 : Int32)) hx hb dX10_whole_1 (by decide) ?_
  refine va_put (D := (dC, dI)) (ci := 9) (v := .int (0 : Int32)) (ty := .int) (C := RX10) (T := TX10) (N := 29) hx hb hts inX10 tyX10 tyX10_ok nmX10 hown hK hP hD hS 0 rfl rfl 9 (by decide) (hts _ (kq q_995 rfl)) (fun _ h9 => h9) rfl (by decide +kernel) rfl rfl (Nat.le_of_ble_eq_true rfl) dX10_whole_2 (fun H locs hP hD hS => ?_)
  have hP : va_P (dC, dI) vwCl [(h_this, .inr (9, [.ref h_this_dayAt, .ref h_this_secondAt, .ref h_this_spans, .ref h_this_kept, .int (i_this 4), .ref h_this_text, .int (i_this 6), .ref h_this_row, .int (i_this 8), .int (0 : Int32), .int (i_this 10), .int (i_this 11), .int (i_this 12), .int (i_this 13), .int (i_this 14), .int (i_this 15), .int (i_this 16), .int (i_this 17), .int (i_this 18), .ref h_this_read, .long (j_this 20), .ref h_this_many, .ref h_this_first, .ref h_this_lengths, .int (i_this 24), .long (j_this 25), .long (j_this 26), .ref h_this_page, .int (i_this 28)])), (h_this_dayAt, .inl (cI, 8, .inl f_this_dayAt)), (h_this_row, .inl (cJ, 16, .inr (.inl f_this_row)))] H := hP
  have hD : va_D A [(h_this, .inr (9, [.ref h_this_dayAt, .ref h_this_secondAt, .ref h_this_spans, .ref h_this_kept, .int (i_this 4), .ref h_this_text, .int (i_this 6), .ref h_this_row, .int (i_this 8), .int (0 : Int32), .int (i_this 10), .int (i_this 11), .int (i_this 12), .int (i_this 13), .int (i_this 14), .int (i_this 15), .int (i_this 16), .int (i_this 17), .int (i_this 18), .ref h_this_read, .long (j_this 20), .ref h_this_many, .ref h_this_first, .ref h_this_lengths, .int (i_this 24), .long (j_this 25), .long (j_this 26), .ref h_this_page, .int (i_this 28)])), (h_this_dayAt, .inl (cI, 8, .inl f_this_dayAt)), (h_this_row, .inl (cJ, 16, .inr (.inl f_this_row)))] := hD
  refine lv_iload_n hx hb dX10_whole_5 rfl (lv_at hl 1 rfl) ?_
  have hP : va_P (dC, dI) vwCl [cl_X10 h_this h_this_dayAt h_this_secondAt h_this_spans h_this_kept h_this_text h_this_row h_this_read h_this_many h_this_first h_this_lengths h_this_page (upd i_this 9 (0 : Int32)) j_this, (h_this_dayAt, .inl (cI, 8, .inl f_this_dayAt)), (h_this_row, .inl (cJ, 16, .inr (.inl f_this_row)))] H := hP
  have hD : va_D A [cl_X10 h_this h_this_dayAt h_this_secondAt h_this_spans h_this_kept h_this_text h_this_row h_this_read h_this_many h_this_first h_this_lengths h_this_page (upd i_this 9 (0 : Int32)) j_this, (h_this_dayAt, .inl (cI, 8, .inl f_this_dayAt)), (h_this_row, .inl (cJ, 16, .inr (.inl f_this_row)))] := hD
  obtain ⟨r13, hc14, h⟩ := bd1_at h
  refine kjSI (kS0 (own := "DateSpansModel") (As := [.int p1]) (rest := []) ⟨hx, hb, hml, hown, hts⟩ (kX10_isSlot l N p1 r13 hc14) (kgS (kq q_1123 rfl) (kq q_1124 rfl) (kq q_66 rfl) (kq q_1125 rfl)) yd_X10_isSlot ⟨Nat.le_of_ble_eq_true rfl, Nat.le_of_ble_eq_true rfl⟩ rfl rfl hl.1 rfl (lv_room (Nat.le_of_ble_eq_true rfl)) dX10_whole_6) ?_
  refine lv_if_eq (tgt := 19) hx hb dX10_whole_9 (by decide) (fun c15 => ?_) (fun c15 => ?_)
  · have h := ite_t c15 h
    refine lv_iconst (v := (-1 : Int32)) hx hb dX10_whole_19 (by decide) ?_
    obtain ⟨rfl, rfl, rfl⟩ := pj3 h
    exact hEnd _ _ _ _ hP hS dX10_whole_20 rfl
  have h := ite_f c15 h
  refine lv_iload_n hx hb dX10_whole_12 rfl (lv_at hl 2 rfl) ?_
  obtain ⟨r16, hc17, h⟩ := bd1_at h
  refine kjSI (kS0 (own := "DateSpansModel") (As := [.int p2]) (rest := []) ⟨hx, hb, hml, hown, hts⟩ (kX10_isSlot l N p2 r16 hc17) (kgS (kq q_1123 rfl) (kq q_1124 rfl) (kq q_66 rfl) (kq q_1125 rfl)) yd_X10_isSlot ⟨Nat.le_of_ble_eq_true rfl, Nat.le_of_ble_eq_true rfl⟩ rfl rfl hl.1 rfl (lv_room (Nat.le_of_ble_eq_true rfl)) dX10_whole_13) ?_
  refine lv_if_ne (tgt := 21) hx hb dX10_whole_16 (by decide) (fun c18 => ?_) (fun c18 => ?_)
  · have h := ite_f c18 h
    refine lv_aload_n hx hb dX10_whole_21 rfl (lv_at hl 0 rfl) ?_
    refine va_get (D := (dC, dI)) (ci := 9) (v := .ref h_this_dayAt) (C := RX10) (T := TX10) (N := 29) hx hb hts inX10 hown hK hP 0 rfl rfl 0 (by decide) (hts _ (kq q_986 rfl)) (fun _ h9 => h9) rfl dX10_whole_22 ?_
    refine lv_iload_n hx hb dX10_whole_25 rfl (lv_at hl 1 rfl) ?_
    obtain ⟨hi19, h⟩ := gi_at h
    refine va_iald hx hb hK hP 1 0 rfl rfl hi19 dX10_whole_26 ?_
    refine lv_aload_n hx hb dX10_whole_27 rfl (lv_at hl 0 rfl) ?_
    refine va_get (D := (dC, dI)) (ci := 9) (v := .ref h_this_dayAt) (C := RX10) (T := TX10) (N := 29) hx hb hts inX10 hown hK hP 0 rfl rfl 0 (by decide) (hts _ (kq q_986 rfl)) (fun _ h9 => h9) rfl dX10_whole_28 ?_
    refine lv_iload_n hx hb dX10_whole_31 rfl (lv_at hl 2 rfl) ?_
    obtain ⟨hi20, h⟩ := gi_at h
    refine va_iald hx hb hK hP 1 0 rfl rfl hi20 dX10_whole_32 ?_
    refine va_mmin (rest := []) hx hb (hml.trans hl.1.symm) hown (hts _ (kq q_1300 rfl)) (hts _ (kq q_701 rfl)) (hts _ (kq q_72 rfl)) (hts _ (kq q_702 rfl)) (Nat.le_of_ble_eq_true rfl) (Nat.le_of_ble_eq_true rfl) (Nat.zero_le _) (Nat.zero_le _) dX10_whole_33 ?_
    refine lv_topi (fun z21 ez21 => ?_)
    have h := nm_at ez21 h
    refine lv_istore_n (lv' := [(3, .int z21), (0, .ref h_this), (1, .int p1), (2, .int p2)]) hx hb dX10_whole_36 rfl hl (by decide) rfl (fun ls hl => ?_)
    refine lv_aload_n hx hb dX10_whole_37 rfl (lv_at hl 1 rfl) ?_
    refine va_get (D := (dC, dI)) (ci := 9) (v := .ref h_this_dayAt) (C := RX10) (T := TX10) (N := 29) hx hb hts inX10 hown hK hP 0 rfl rfl 0 (by decide) (hts _ (kq q_986 rfl)) (fun _ h9 => h9) rfl dX10_whole_38 ?_
    refine lv_iload_n hx hb dX10_whole_41 rfl (lv_at hl 2 rfl) ?_
    obtain ⟨hi22, h⟩ := gi_at h
    refine va_iald hx hb hK hP 1 0 rfl rfl hi22 dX10_whole_42 ?_
    refine lv_aload_n hx hb dX10_whole_43 rfl (lv_at hl 1 rfl) ?_
    refine va_get (D := (dC, dI)) (ci := 9) (v := .ref h_this_dayAt) (C := RX10) (T := TX10) (N := 29) hx hb hts inX10 hown hK hP 0 rfl rfl 0 (by decide) (hts _ (kq q_986 rfl)) (fun _ h9 => h9) rfl dX10_whole_44 ?_
    refine lv_iload_n hx hb dX10_whole_47 rfl (lv_at hl 3 rfl) ?_
    obtain ⟨hi23, h⟩ := gi_at h
    refine va_iald hx hb hK hP 1 0 rfl rfl hi23 dX10_whole_48 ?_
    refine va_mmax (rest := []) hx hb (hml.trans hl.1.symm) hown (hts _ (kq q_1299 rfl)) (hts _ (kq q_569 rfl)) (hts _ (kq q_72 rfl)) (hts _ (kq q_570 rfl)) (Nat.le_of_ble_eq_true rfl) (Nat.le_of_ble_eq_true rfl) (Nat.zero_le _) (Nat.zero_le _) dX10_whole_49 ?_
    refine lv_topi (fun z24 ez24 => ?_)
    have h := nm_at ez24 h
    refine lv_istore (lv' := [(4, .int z24), (3, .int z21), (0, .ref h_this), (1, .int p1), (2, .int p2)]) hx hb dX10_whole_52 hl (by decide) rfl (fun ls hl => ?_)
    refine lv_aload_n hx hb dX10_whole_54 rfl (lv_at hl 2 rfl) ?_
    refine lv_iload hx hb dX10_whole_55 (lv_at hl 0 rfl) ?_
    obtain ⟨i_this_25, hc26, h⟩ := bd1_at h
    refine kjV (kV (own := "DateSpansModel") (C := "DateSpansModel") (b := h_this) (As := [.int z24]) (rest := []) ⟨hx, hb, hml, hown, hts⟩ (kX10_dates l dC dI cI cJ cB h_this h_this_dayAt h_this_secondAt h_this_spans h_this_kept h_this_text h_this_row h_this_read h_this_many h_this_first h_this_lengths h_this_page N z24 (upd i_this 9 (0 : Int32)) j_this i_this_25 hc26 _) (kgV (kq q_1238 rfl) (kq q_1240 rfl) (kq q_30 rfl) (kq q_66 rfl) (kq q_1241 rfl)) yd_X10_dates ⟨Nat.le_of_ble_eq_true rfl, Nat.le_of_ble_eq_true rfl⟩ hN hK hP hD [0] rfl rfl (ci := 9) rfl rfl rfl rfl rfl hl.1 rfl (lv_room (Nat.le_of_ble_eq_true rfl)) dX10_whole_57) hP hD hS hA [0] rfl rfl (fun H locs hP hD hS => ?_)
    have hP : va_P (dC, dI) vwCl [cl_X10 h_this h_this_dayAt h_this_secondAt h_this_spans h_this_kept h_this_text h_this_row h_this_read h_this_many h_this_first h_this_lengths h_this_page i_this_25 j_this, (h_this_dayAt, .inl (cI, 8, .inl f_this_dayAt)), (h_this_row, .inl (cJ, 16, .inr (.inl f_this_row)))] H := hP
    have hD : va_D A [cl_X10 h_this h_this_dayAt h_this_secondAt h_this_spans h_this_kept h_this_text h_this_row h_this_read h_this_many h_this_first h_this_lengths h_this_page i_this_25 j_this, (h_this_dayAt, .inl (cI, 8, .inl f_this_dayAt)), (h_this_row, .inl (cJ, 16, .inr (.inl f_this_row)))] := hD
    refine lv_bipush (v := (12 : Int32)) hx hb dX10_whole_60 (by decide) ?_
    refine lv_aload_n hx hb dX10_whole_62 rfl (lv_at hl 2 rfl) ?_
    refine va_get (D := (dC, dI)) (ci := 9) (v := .int (i_this_25 10)) (C := RX10) (T := TX10) (N := 29) hx hb hts inX10 hown hK hP 0 rfl rfl 10 (by decide) (hts _ (kq q_996 rfl)) (fun _ h9 => h9) rfl dX10_whole_63 ?_
    refine lv_imul hx hb dX10_whole_66 ?_
    refine lv_aload_n hx hb dX10_whole_67 rfl (lv_at hl 2 rfl) ?_
    refine va_get (D := (dC, dI)) (ci := 9) (v := .int (i_this_25 11)) (C := RX10) (T := TX10) (N := 29) hx hb hts inX10 hown hK hP 0 rfl rfl 11 (by decide) (hts _ (kq q_997 rfl)) (fun _ h9 => h9) rfl dX10_whole_68 ?_
    refine lv_iadd hx hb dX10_whole_71 ?_
    refine lv_iconst (v := (1 : Int32)) hx hb dX10_whole_72 (by decide) ?_
    refine lv_isub hx hb dX10_whole_73 ?_
    refine lv_topi (fun z27 ez27 => ?_)
    have h := nm_at ez27 h
    refine lv_istore (lv' := [(5, .int z27), (4, .int z24), (3, .int z21), (0, .ref h_this), (1, .int p1), (2, .int p2)]) hx hb dX10_whole_74 hl (by decide) rfl (fun ls hl => ?_)
    refine lv_iload hx hb dX10_whole_76 (lv_at hl 1 rfl) ?_
    refine lv_aload_n hx hb dX10_whole_78 rfl (lv_at hl 3 rfl) ?_
    refine va_get (D := (dC, dI)) (ci := 9) (v := .int (i_this_25 12)) (C := RX10) (T := TX10) (N := 29) hx hb hts inX10 hown hK hP 0 rfl rfl 12 (by decide) (hts _ (kq q_998 rfl)) (fun _ h9 => h9) rfl dX10_whole_79 ?_
    refine lv_isub hx hb dX10_whole_82 ?_
    refine lv_iconst (v := (1 : Int32)) hx hb dX10_whole_83 (by decide) ?_
    refine lv_iadd hx hb dX10_whole_84 ?_
    refine lv_topi (fun z28 ez28 => ?_)
    have h := nm_at ez28 h
    refine lv_istore (lv' := [(6, .int z28), (5, .int z27), (4, .int z24), (3, .int z21), (0, .ref h_this), (1, .int p1), (2, .int p2)]) hx hb dX10_whole_85 hl (by decide) rfl (fun ls hl => ?_)
    refine lv_aload_n hx hb dX10_whole_87 rfl (lv_at hl 4 rfl) ?_
    refine lv_iload_n hx hb dX10_whole_88 rfl (lv_at hl 3 rfl) ?_
    obtain ⟨i_this_29, hc30, h⟩ := bd1_at h
    refine kjV (kV (own := "DateSpansModel") (C := "DateSpansModel") (b := h_this) (As := [.int z21]) (rest := []) ⟨hx, hb, hml, hown, hts⟩ (kX10_dates l dC dI cI cJ cB h_this h_this_dayAt h_this_secondAt h_this_spans h_this_kept h_this_text h_this_row h_this_read h_this_many h_this_first h_this_lengths h_this_page N z21 i_this_25 j_this i_this_29 hc30 _) (kgV (kq q_1238 rfl) (kq q_1240 rfl) (kq q_30 rfl) (kq q_66 rfl) (kq q_1241 rfl)) yd_X10_dates ⟨Nat.le_of_ble_eq_true rfl, Nat.le_of_ble_eq_true rfl⟩ hN hK hP hD [0] rfl rfl (ci := 9) rfl rfl rfl rfl rfl hl.1 rfl (lv_room (Nat.le_of_ble_eq_true rfl)) dX10_whole_89) hP hD hS hA [0] rfl rfl (fun H locs hP hD hS => ?_)
    have hP : va_P (dC, dI) vwCl [cl_X10 h_this h_this_dayAt h_this_secondAt h_this_spans h_this_kept h_this_text h_this_row h_this_read h_this_many h_this_first h_this_lengths h_this_page i_this_29 j_this, (h_this_dayAt, .inl (cI, 8, .inl f_this_dayAt)), (h_this_row, .inl (cJ, 16, .inr (.inl f_this_row)))] H := hP
    have hD : va_D A [cl_X10 h_this h_this_dayAt h_this_secondAt h_this_spans h_this_kept h_this_text h_this_row h_this_read h_this_many h_this_first h_this_lengths h_this_page i_this_29 j_this, (h_this_dayAt, .inl (cI, 8, .inl f_this_dayAt)), (h_this_row, .inl (cJ, 16, .inr (.inl f_this_row)))] := hD
    refine lv_bipush (v := (12 : Int32)) hx hb dX10_whole_92 (by decide) ?_
    refine lv_aload_n hx hb dX10_whole_94 rfl (lv_at hl 4 rfl) ?_
    refine va_get (D := (dC, dI)) (ci := 9) (v := .int (i_this_29 10)) (C := RX10) (T := TX10) (N := 29) hx hb hts inX10 hown hK hP 0 rfl rfl 10 (by decide) (hts _ (kq q_996 rfl)) (fun _ h9 => h9) rfl dX10_whole_95 ?_
    refine lv_imul hx hb dX10_whole_98 ?_
    refine lv_aload_n hx hb dX10_whole_99 rfl (lv_at hl 4 rfl) ?_
    refine va_get (D := (dC, dI)) (ci := 9) (v := .int (i_this_29 11)) (C := RX10) (T := TX10) (N := 29) hx hb hts inX10 hown hK hP 0 rfl rfl 11 (by decide) (hts _ (kq q_997 rfl)) (fun _ h9 => h9) rfl dX10_whole_100 ?_
    refine lv_iadd hx hb dX10_whole_103 ?_
    refine lv_iconst (v := (1 : Int32)) hx hb dX10_whole_104 (by decide) ?_
    refine lv_isub hx hb dX10_whole_105 ?_
    refine lv_topi (fun z31 ez31 => ?_)
    have h := nm_at ez31 h
    refine lv_istore (lv' := [(7, .int z31), (6, .int z28), (5, .int z27), (4, .int z24), (3, .int z21), (0, .ref h_this), (1, .int p1), (2, .int p2)]) hx hb dX10_whole_106 hl (by decide) rfl (fun ls hl => ?_)
    refine lv_iload_n hx hb dX10_whole_108 rfl (lv_at hl 4 rfl) ?_
    refine lv_istore (lv' := [(8, .int z21), (7, .int z31), (6, .int z28), (5, .int z27), (4, .int z24), (3, .int z21), (0, .ref h_this), (1, .int p1), (2, .int p2)]) hx hb dX10_whole_109 hl (by decide) rfl (fun ls hl => ?_)
    refine lv_aload_n hx hb dX10_whole_111 rfl (lv_at hl 6 rfl) ?_
    refine va_get (D := (dC, dI)) (ci := 9) (v := .int (i_this_29 12)) (C := RX10) (T := TX10) (N := 29) hx hb hts inX10 hown hK hP 0 rfl rfl 12 (by decide) (hts _ (kq q_998 rfl)) (fun _ h9 => h9) rfl dX10_whole_112 ?_
    refine lv_iconst (v := (1 : Int32)) hx hb dX10_whole_115 (by decide) ?_
    refine lv_icmp_le (tgt := 144) hx hb dX10_whole_116 (by decide) (fun c32 => ?_) (fun c32 => ?_)
    · have h := ite_t c32 h
      exact JN_144 _ _ _ _ _ _ _ _ _ _ _ h (lv_sub hl [6, 5, 4, 3, 2, 1, 0] rfl) hP hD hS
    have h := ite_f c32 h
    refine lv_iload_n hx hb dX10_whole_119 rfl (lv_at hl 5 rfl) ?_
    refine lv_aload_n hx hb dX10_whole_120 rfl (lv_at hl 6 rfl) ?_
    refine va_get (D := (dC, dI)) (ci := 9) (v := .int (i_this_29 12)) (C := RX10) (T := TX10) (N := 29) hx hb hts inX10 hown hK hP 0 rfl rfl 12 (by decide) (hts _ (kq q_998 rfl)) (fun _ h9 => h9) rfl dX10_whole_121 ?_
    refine lv_isub hx hb dX10_whole_124 ?_
    refine lv_iconst (v := (1 : Int32)) hx hb dX10_whole_125 (by decide) ?_
    refine lv_iadd hx hb dX10_whole_126 ?_
    refine lv_aload_n hx hb dX10_whole_127 rfl (lv_at hl 6 rfl) ?_
    refine va_get (D := (dC, dI)) (ci := 9) (v := .int (i_this_29 10)) (C := RX10) (T := TX10) (N := 29) hx hb hts inX10 hown hK hP 0 rfl rfl 10 (by decide) (hts _ (kq q_996 rfl)) (fun _ h9 => h9) rfl dX10_whole_128 ?_
    refine lv_aload_n hx hb dX10_whole_131 rfl (lv_at hl 6 rfl) ?_
    refine va_get (D := (dC, dI)) (ci := 9) (v := .int (i_this_29 11)) (C := RX10) (T := TX10) (N := 29) hx hb hts inX10 hown hK hP 0 rfl rfl 11 (by decide) (hts _ (kq q_997 rfl)) (fun _ h9 => h9) rfl dX10_whole_132 ?_
    obtain ⟨r33, hc34, h⟩ := bd1_at h
    refine kjSI (kS0 (own := "DateSpansModel") (As := [.int (i_this_29 10), .int (i_this_29 11)]) (rest := [.int ((z21 - (i_this_29 12)) + (1 : Int32))]) ⟨hx, hb, hml, hown, hts⟩ (kX10_monthDays l N (i_this_29 10) (i_this_29 11) r33 hc34) (kgS (kq q_1117 rfl) (kq q_1118 rfl) (kq q_66 rfl) (kq q_1119 rfl)) yd_X10_monthDays ⟨Nat.le_of_ble_eq_true rfl, Nat.le_of_ble_eq_true rfl⟩ rfl rfl hl.1 rfl (lv_room (Nat.le_of_ble_eq_true rfl)) dX10_whole_135) ?_
    refine lv_iadd hx hb dX10_whole_138 ?_
    refine lv_topi (fun z35 ez35 => ?_)
    have h := nm_at ez35 h
    refine lv_istore (lv' := [(8, .int z35), (7, .int z31), (6, .int z28), (5, .int z27), (4, .int z24), (3, .int z21), (0, .ref h_this), (1, .int p1), (2, .int p2)]) hx hb dX10_whole_139 hl (by decide) rfl (fun ls hl => ?_)
    obtain ⟨z36, ez36⟩ : ∃ y : Int32, y = (z31 + (1 : Int32)) := ⟨_, rfl⟩
    have h := nm_at ez36 h
    refine lv_iinc (v := z36) (lv' := [(7, .int z36), (8, .int z35), (6, .int z28), (5, .int z27), (4, .int z24), (3, .int z21), (0, .ref h_this), (1, .int p1), (2, .int p2)]) hx hb dX10_whole_141 hl (k := 1) rfl (by rw [ez36]; rfl) (by decide) rfl (fun ls hl => ?_)
    exact JN_144 _ _ _ _ _ _ _ _ _ _ _ h (lv_sub hl [6, 5, 4, 3, 2, 0, 1] rfl) hP hD hS
  have h := ite_t c18 h
  refine lv_iconst (v := (-1 : Int32)) hx hb dX10_whole_19 (by decide) ?_
  obtain ⟨rfl, rfl, rfl⟩ := pj3 h
  exact hEnd _ _ _ _ hP hS dX10_whole_20 rfl
