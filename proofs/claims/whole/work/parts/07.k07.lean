noncomputable def fX10_sizeOf (N : Nat) (p1 : Int64) : Option (Int64) := (if (0 : Int32) ≤ (lg_cmp p1 (0 : Int64)) then (some p1) else (some (-p1)))
set_option maxHeartbeats 4000000 in
set_option maxRecDepth 100000 in
theorem kX10_sizeOf (l : Launch) (N : Nat) (p1 : Int64) (r : Int64) (hf : fX10_sizeOf N p1 = some r) : SL l yX10_sizeOf (kws yX10_sizeOf cX10_sizeOf 2 (some .long)) (kR 0 0) [.long p1] r := by
  refine SL.of (cc := cX10_sizeOf) (maxL := 2) (by decide) (Nat.le_of_ble_eq_true rfl) (fun p e s m args below meth c Q ls KC hl hEnd => ?_)
  obtain ⟨hx, hb, hml, hown, hts⟩ := KC
  have hown : s.vm.findClass "DateSpansModel" = some m.cls := hown
  have hl : lv_has ls 2 [(0, .long p1)] := hl
  have h := hf
  unfold fX10_sizeOf at h
  refine lv_lload_n hx hb dX10_sizeOf_0 rfl (lv_at hl 0 rfl) ?_
  refine lv_lconst (v := (0 : Int64)) hx hb dX10_sizeOf_1 (by decide) ?_
  refine W.lcmp hx hb dX10_sizeOf_2 ?_
  refine lv_if_ge (tgt := 11) hx hb dX10_sizeOf_3 (by decide) (fun c1 => ?_) (fun c1 => ?_)
  · have h := ite_t c1 h
    refine lv_lload_n hx hb dX10_sizeOf_11 rfl (lv_at hl 0 rfl) ?_
    obtain rfl := pj1 h
    exact hEnd _ _ dX10_sizeOf_12
  have h := ite_f c1 h
  refine lv_lload_n hx hb dX10_sizeOf_6 rfl (lv_at hl 0 rfl) ?_
  refine lv_lneg hx hb dX10_sizeOf_7 ?_
  refine lv_goto (tgt := 12) hx hb dX10_sizeOf_8 (by decide) ?_
  obtain rfl := pj1 h
  exact hEnd _ _ dX10_sizeOf_12
noncomputable def fX10_least_l102 (N : Nat) (f_this_dayAt : Nat → Int32) (n : Nat) : Int32 → Int32 → Int32 → Int32 → Int32 → Int64 → Int32 → Int32 → Int32 → (Nat → Int32) → (Nat → Int64) → (Nat → Int64) → Option (Int32 × (Nat → Int32) × (Nat → Int64) × (Nat → Int64)) := Nat.rec (motive := fun _ => Int32 → Int32 → Int32 → Int32 → Int32 → Int64 → Int32 → Int32 → Int32 → (Nat → Int32) → (Nat → Int64) → (Nat → Int64) → Option (Int32 × (Nat → Int32) × (Nat → Int64) × (Nat → Int64))) (fun _ _ _ _ _ _ _ _ _ _ _ _ => none) (fun _ K_102 v3 v4 v5 v6 v7 v8 v10 v11 v12 i_this j_this f_this_row => (if v7 < v12 then (bd2 (fX10_tell N v10.toInt64 (upd i_this 8 (0 : Int32)) j_this f_this_row) fun i_this_2 f_this_row_3 => (bd2 (fX10_tell N v11.toInt64 i_this_2 j_this f_this_row_3) fun i_this_5 f_this_row_6 => (some (v8.toInt32, i_this_5, j_this, f_this_row_6)))) else (bd1 (fX10_stands N v4 (0 : Int32) i_this j_this) fun i_this_8 => (bd2 (fX10_addsMonths N (v6.toInt64 * v12.toInt64) v3 i_this_8 j_this) fun r10 i_this_11 => (if r10 = (0 : Int32) then (nm (v12 + (1 : Int32)) fun z27 => (K_102 v3 v4 v5 v6 v7 v8 v10 v11 z27 i_this_11 j_this f_this_row)) else (nm (v5 - (i_this_11 13)) fun z14 => (bd1 (fX10_sizeOf N ((z14 / (7 : Int32)).toInt64)) fun r15 => (bd1 (fX10_sizeOf N ((z14 - z14 / (7 : Int32) * (7 : Int32)).toInt64)) fun r17 => (nm ((((v12 / (12 : Int32)) + (v12 - v12 / (12 : Int32) * (12 : Int32))).toInt64 + r15) + r17) fun z19 => (if (lg_cmp v8 (-1 : Int64)) = (0 : Int32) then (nm (v6 * v12) fun z21 => (nm (v12 + (1 : Int32)) fun z22 => (K_102 v3 v4 v5 v6 v7 z19 z21 z14 z22 i_this_11 j_this f_this_row))) else (if (lg_cmp z19 v8) < (0 : Int32) then (nm (v6 * v12) fun z24 => (nm (v12 + (1 : Int32)) fun z25 => (K_102 v3 v4 v5 v6 v7 z19 z24 z14 z25 i_this_11 j_this f_this_row))) else (nm (v12 + (1 : Int32)) fun z26 => (K_102 v3 v4 v5 v6 v7 v8 v10 v11 z26 i_this_11 j_this f_this_row))))))))))))) n
theorem fX10_least_l102_s (N : Nat) (f_this_dayAt : Nat → Int32) (n : Nat) (v3 : Int32) (v4 : Int32) (v5 : Int32) (v6 : Int32) (v7 : Int32) (v8 : Int64) (v10 : Int32) (v11 : Int32) (v12 : Int32) (i_this : Nat → Int32) (j_this : Nat → Int64) (f_this_row : Nat → Int64) : fX10_least_l102 N f_this_dayAt (n + 1) v3 v4 v5 v6 v7 v8 v10 v11 v12 i_this j_this f_this_row = (if v7 < v12 then (bd2 (fX10_tell N v10.toInt64 (upd i_this 8 (0 : Int32)) j_this f_this_row) fun i_this_2 f_this_row_3 => (bd2 (fX10_tell N v11.toInt64 i_this_2 j_this f_this_row_3) fun i_this_5 f_this_row_6 => (some (v8.toInt32, i_this_5, j_this, f_this_row_6)))) else (bd1 (fX10_stands N v4 (0 : Int32) i_this j_this) fun i_this_8 => (bd2 (fX10_addsMonths N (v6.toInt64 * v12.toInt64) v3 i_this_8 j_this) fun r10 i_this_11 => (if r10 = (0 : Int32) then (nm (v12 + (1 : Int32)) fun z27 => ((fX10_least_l102 N f_this_dayAt n) v3 v4 v5 v6 v7 v8 v10 v11 z27 i_this_11 j_this f_this_row)) else (nm (v5 - (i_this_11 13)) fun z14 => (bd1 (fX10_sizeOf N ((z14 / (7 : Int32)).toInt64)) fun r15 => (bd1 (fX10_sizeOf N ((z14 - z14 / (7 : Int32) * (7 : Int32)).toInt64)) fun r17 => (nm ((((v12 / (12 : Int32)) + (v12 - v12 / (12 : Int32) * (12 : Int32))).toInt64 + r15) + r17) fun z19 => (if (lg_cmp v8 (-1 : Int64)) = (0 : Int32) then (nm (v6 * v12) fun z21 => (nm (v12 + (1 : Int32)) fun z22 => ((fX10_least_l102 N f_this_dayAt n) v3 v4 v5 v6 v7 z19 z21 z14 z22 i_this_11 j_this f_this_row))) else (if (lg_cmp z19 v8) < (0 : Int32) then (nm (v6 * v12) fun z24 => (nm (v12 + (1 : Int32)) fun z25 => ((fX10_least_l102 N f_this_dayAt n) v3 v4 v5 v6 v7 z19 z24 z14 z25 i_this_11 j_this f_this_row))) else (nm (v12 + (1 : Int32)) fun z26 => ((fX10_least_l102 N f_this_dayAt n) v3 v4 v5 v6 v7 v8 v10 v11 z26 i_this_11 j_this f_this_row)))))))))))) := rfl
theorem fX10_least_l102_0 (N : Nat) (f_this_dayAt : Nat → Int32) (v3 : Int32) (v4 : Int32) (v5 : Int32) (v6 : Int32) (v7 : Int32) (v8 : Int64) (v10 : Int32) (v11 : Int32) (v12 : Int32) (i_this : Nat → Int32) (j_this : Nat → Int64) (f_this_row : Nat → Int64) : fX10_least_l102 N f_this_dayAt 0 v3 v4 v5 v6 v7 v8 v10 v11 v12 i_this j_this f_this_row = none := rfl
noncomputable def fX10_least_j73 (N : Nat) (f_this_dayAt : Nat → Int32) (v3 : Int32) (v4 : Int32) (v5 : Int32) (t0 : Int32) (i_this : Nat → Int32) (j_this : Nat → Int64) (f_this_row : Nat → Int64) : Option (Int32 × (Nat → Int32) × (Nat → Int64) × (Nat → Int64)) := (bd1 (fX10_sizeOf N (j_this 20)) fun r28 => (nm (r28.toInt32 + (12 : Int32)) fun z30 => (fX10_least_l102 N f_this_dayAt N v3 v4 v5 t0 z30 (-1 : Int64) (0 : Int32) (0 : Int32) (0 : Int32) i_this j_this f_this_row)))
noncomputable def fX10_least (N : Nat) (p1 : Int32) (p2 : Int32) (p3 : Int32) (i_this : Nat → Int32) (j_this : Nat → Int64) (f_this_dayAt : Nat → Int32) (f_this_row : Nat → Int64) : Option (Int32 × (Nat → Int32) × (Nat → Int64) × (Nat → Int64)) := (bd1 (fX10_isSlot N p1) fun r31 => (if r31 = (0 : Int32) then (some ((-1 : Int32), (upd i_this 9 (0 : Int32)), j_this, f_this_row)) else (bd1 (fX10_isSlot N p2) fun r34 => (if r34 = (0 : Int32) then (some ((-1 : Int32), (upd i_this 9 (0 : Int32)), j_this, f_this_row)) else (bd1 (fX10_isLaw N p3) fun r37 => (if r37 = (0 : Int32) then (some ((-1 : Int32), (upd i_this 9 (0 : Int32)), j_this, f_this_row)) else (gi p1 8 (nm (f_this_dayAt p1.toNatClampNeg) fun z41 => (gi p2 8 (nm (f_this_dayAt p2.toNatClampNeg) fun z43 => (bd2 (fX10_differs N z41 (0 : Int32) (z43.toInt64 * (86400 : Int64)) p3 (7 : Int32) (upd i_this 9 (0 : Int32)) j_this) fun i_this_44 j_this_45 => (if z41 ≤ z43 then (fX10_least_j73 N f_this_dayAt p3 z41 z43 (1 : Int32) i_this_44 j_this_45 f_this_row) else (fX10_least_j73 N f_this_dayAt p3 z41 z43 (-1 : Int32) i_this_44 j_this_45 f_this_row)))))))))))))
set_option maxHeartbeats 4000000 in
set_option maxRecDepth 100000 in
theorem kX10_least (l : Launch) (dC : Nat → ClassId) (dI : Nat → Nat → Nat) (cI cJ cB : ClassId) (h_this h_this_dayAt h_this_secondAt h_this_spans h_this_kept h_this_text h_this_row h_this_read h_this_many h_this_first h_this_lengths h_this_page : Nat) (N : Nat) (p1 : Int32) (p2 : Int32) (p3 : Int32) (i_this : Nat → Int32) (j_this : Nat → Int64) (f_this_dayAt : Nat → Int32) (f_this_row : Nat → Int64) (r : Int32) (o_i_this : Nat → Int32) (o_j_this : Nat → Int64) (o_f_this_row : Nat → Int64) (hf : fX10_least N p1 p2 p3 i_this j_this f_this_dayAt f_this_row = some (r, o_i_this, o_j_this, o_f_this_row)) : MI l yX10_least (kws yX10_least cX10_least 16 (some .int)) (kR 6 158) (dC, dI) (kT cI cJ cB) [.ref h_this, .int p1, .int p2, .int p3] [cl_X10 h_this h_this_dayAt h_this_secondAt h_this_spans h_this_kept h_this_text h_this_row h_this_read h_this_many h_this_first h_this_lengths h_this_page i_this j_this, (h_this_dayAt, .inl (cI, 8, .inl f_this_dayAt)), (h_this_row, .inl (cJ, 16, .inr (.inl f_this_row)))] [cl_X10 h_this h_this_dayAt h_this_secondAt h_this_spans h_this_kept h_this_text h_this_row h_this_read h_this_many h_this_first h_this_lengths h_this_page o_i_this o_j_this, (h_this_dayAt, .inl (cI, 8, .inl f_this_dayAt)), (h_this_row, .inl (cJ, 16, .inr (.inl o_f_this_row)))] r := by
  refine MI.of (cc := cX10_least) (maxL := 16) (by decide) (Nat.le_of_ble_eq_true rfl) (fun p e s m args below meth c A Q ls KC hN hK hP hD hA hl hEnd => ?_)
  obtain ⟨hx, hb, hml, hown, hts⟩ := KC
  have hown : s.vm.findClass "DateSpansModel" = some m.cls := hown
  have hl : lv_has ls 16 [(0, .ref h_this), (1, .int p1), (2, .int p2), (3, .int p3)] := hl
  have hS : va_S A s.heap s.heap [] := va_S.rf
  have LP_102 : ∀ n_102 : Nat, ∀ (v3 : Int32) (v4 : Int32) (v5 : Int32) (v6 : Int32) (v7 : Int32) (v8 : Int64) (v10 : Int32) (v11 : Int32) (v12 : Int32) (i_this : Nat → Int32) (j_this : Nat → Int64) (f_this_row : Nat → Int64) (ls : Array Slot) (H : Heap) (locs : List Loc), fX10_least_l102 N f_this_dayAt n_102 v3 v4 v5 v6 v7 v8 v10 v11 v12 i_this j_this f_this_row = some (r, o_i_this, o_j_this, o_f_this_row) → lv_has ls 16 [(0, .ref h_this), (3, .int v3), (4, .int v4), (5, .int v5), (6, .int v6), (7, .int v7), (8, .long v8), (10, .int v10), (11, .int v11), (12, .int v12)] → va_P (dC, dI) vwCl [cl_X10 h_this h_this_dayAt h_this_secondAt h_this_spans h_this_kept h_this_text h_this_row h_this_read h_this_many h_this_first h_this_lengths h_this_page i_this j_this, (h_this_dayAt, .inl (cI, 8, .inl f_this_dayAt)), (h_this_row, .inl (cJ, 16, .inr (.inl f_this_row)))] H → va_D A [cl_X10 h_this h_this_dayAt h_this_secondAt h_this_spans h_this_kept h_this_text h_this_row h_this_read h_this_many h_this_first h_this_lengths h_this_page i_this j_this, (h_this_dayAt, .inl (cI, 8, .inl f_this_dayAt)), (h_this_row, .inl (cJ, 16, .inr (.inl f_this_row)))] → va_S A s.heap H locs → W p l e (kR 6 158) s m args below meth c H locs 0 0 Q (F0 m 102 ls []) := by
    intro n_102
    induction n_102 with
    | zero =>
      intro v3 v4 v5 v6 v7 v8 v10 v11 v12 i_this j_this f_this_row ls H locs h hl hP hD hS
      rw [fX10_least_l102_0] at h; cases h
    | succ n_102 ih_102 =>
      intro v3 v4 v5 v6 v7 v8 v10 v11 v12 i_this j_this f_this_row ls H locs h hl hP hD hS
      rw [fX10_least_l102_s] at h
      refine lv_iload hx hb dX10_least_102 (lv_at hl 9 rfl) ?_
      refine lv_iload hx hb dX10_least_104 (lv_at hl 5 rfl) ?_
      refine lv_icmp_gt (tgt := 218) hx hb dX10_least_106 (by decide) (fun c1 => ?_) (fun c1 => ?_)
      · have h := ite_t c1 h
        refine lv_aload_n hx hb dX10_least_218 rfl (lv_at hl 0 rfl) ?_
        refine lv_iconst (v := (0 : Int32)) hx hb dX10_least_219 (by decide) ?_
        refine va_put (D := (dC, dI)) (ci := 9) (v := .int (0 : Int32)) (ty := .int) (C := RX10) (T := TX10) (N := 29) hx hb hts inX10 tyX10 tyX10_ok nmX10 hown hK hP hD hS 0 rfl rfl 8 (by decide) (hts _ (kq q_994 rfl)) (fun _ h9 => h9) rfl (by decide +kernel) rfl rfl (Nat.le_of_ble_eq_true rfl) dX10_least_220 (fun H locs hP hD hS => ?_)
        have hP : va_P (dC, dI) vwCl [(h_this, .inr (9, [.ref h_this_dayAt, .ref h_this_secondAt, .ref h_this_spans, .ref h_this_kept, .int (i_this 4), .ref h_this_text, .int (i_this 6), .ref h_this_row, .int (0 : Int32), .int (i_this 9), .int (i_this 10), .int (i_this 11), .int (i_this 12), .int (i_this 13), .int (i_this 14), .int (i_this 15), .int (i_this 16), .int (i_this 17), .int (i_this 18), .ref h_this_read, .long (j_this 20), .ref h_this_many, .ref h_this_first, .ref h_this_lengths, .int (i_this 24), .long (j_this 25), .long (j_this 26), .ref h_this_page, .int (i_this 28)])), (h_this_dayAt, .inl (cI, 8, .inl f_this_dayAt)), (h_this_row, .inl (cJ, 16, .inr (.inl f_this_row)))] H := hP
        have hD : va_D A [(h_this, .inr (9, [.ref h_this_dayAt, .ref h_this_secondAt, .ref h_this_spans, .ref h_this_kept, .int (i_this 4), .ref h_this_text, .int (i_this 6), .ref h_this_row, .int (0 : Int32), .int (i_this 9), .int (i_this 10), .int (i_this 11), .int (i_this 12), .int (i_this 13), .int (i_this 14), .int (i_this 15), .int (i_this 16), .int (i_this 17), .int (i_this 18), .ref h_this_read, .long (j_this 20), .ref h_this_many, .ref h_this_first, .ref h_this_lengths, .int (i_this 24), .long (j_this 25), .long (j_this 26), .ref h_this_page, .int (i_this 28)])), (h_this_dayAt, .inl (cI, 8, .inl f_this_dayAt)), (h_this_row, .inl (cJ, 16, .inr (.inl f_this_row)))] := hD
        refine lv_aload_n hx hb dX10_least_223 rfl (lv_at hl 0 rfl) ?_
        refine lv_iload hx hb dX10_least_224 (lv_at hl 7 rfl) ?_
        refine lv_i2l hx hb dX10_least_226 rfl ?_
        have hP : va_P (dC, dI) vwCl [cl_X10 h_this h_this_dayAt h_this_secondAt h_this_spans h_this_kept h_this_text h_this_row h_this_read h_this_many h_this_first h_this_lengths h_this_page (upd i_this 8 (0 : Int32)) j_this, (h_this_dayAt, .inl (cI, 8, .inl f_this_dayAt)), (h_this_row, .inl (cJ, 16, .inr (.inl f_this_row)))] H := hP
        have hD : va_D A [cl_X10 h_this h_this_dayAt h_this_secondAt h_this_spans h_this_kept h_this_text h_this_row h_this_read h_this_many h_this_first h_this_lengths h_this_page (upd i_this 8 (0 : Int32)) j_this, (h_this_dayAt, .inl (cI, 8, .inl f_this_dayAt)), (h_this_row, .inl (cJ, 16, .inr (.inl f_this_row)))] := hD
        obtain ⟨i_this_2, f_this_row_3, hc4, h⟩ := bd2_at h
        refine kjV (kV (own := "DateSpansModel") (C := "DateSpansModel") (b := h_this) (As := [.long v10.toInt64]) (rest := []) ⟨hx, hb, hml, hown, hts⟩ (kX10_tell l dC dI cI cJ cB h_this h_this_dayAt h_this_secondAt h_this_spans h_this_kept h_this_text h_this_row h_this_read h_this_many h_this_first h_this_lengths h_this_page N v10.toInt64 (upd i_this 8 (0 : Int32)) j_this f_this_row i_this_2 f_this_row_3 hc4 _) (kgV (kq q_1221 rfl) (kq q_1223 rfl) (kq q_29 rfl) (kq q_66 rfl) (kq q_1224 rfl)) yd_X10_tell ⟨Nat.le_of_ble_eq_true rfl, Nat.le_of_ble_eq_true rfl⟩ hN hK hP hD [0, 2] rfl rfl (ci := 9) rfl rfl rfl rfl rfl hl.1 rfl (lv_room (Nat.le_of_ble_eq_true rfl)) dX10_least_227) hP hD hS hA [0, 2] rfl rfl (fun H locs hP hD hS => ?_)
        have hP : va_P (dC, dI) vwCl [cl_X10 h_this h_this_dayAt h_this_secondAt h_this_spans h_this_kept h_this_text h_this_row h_this_read h_this_many h_this_first h_this_lengths h_this_page i_this_2 j_this, (h_this_dayAt, .inl (cI, 8, .inl f_this_dayAt)), (h_this_row, .inl (cJ, 16, .inr (.inl f_this_row_3)))] H := hP
        have hD : va_D A [cl_X10 h_this h_this_dayAt h_this_secondAt h_this_spans h_this_kept h_this_text h_this_row h_this_read h_this_many h_this_first h_this_lengths h_this_page i_this_2 j_this, (h_this_dayAt, .inl (cI, 8, .inl f_this_dayAt)), (h_this_row, .inl (cJ, 16, .inr (.inl f_this_row_3)))] := hD
        refine lv_aload_n hx hb dX10_least_230 rfl (lv_at hl 0 rfl) ?_
        refine lv_iload hx hb dX10_least_231 (lv_at hl 8 rfl) ?_
        refine lv_i2l hx hb dX10_least_233 rfl ?_
        obtain ⟨i_this_5, f_this_row_6, hc7, h⟩ := bd2_at h
        refine kjV (kV (own := "DateSpansModel") (C := "DateSpansModel") (b := h_this) (As := [.long v11.toInt64]) (rest := []) ⟨hx, hb, hml, hown, hts⟩ (kX10_tell l dC dI cI cJ cB h_this h_this_dayAt h_this_secondAt h_this_spans h_this_kept h_this_text h_this_row h_this_read h_this_many h_this_first h_this_lengths h_this_page N v11.toInt64 i_this_2 j_this f_this_row_3 i_this_5 f_this_row_6 hc7 _) (kgV (kq q_1221 rfl) (kq q_1223 rfl) (kq q_29 rfl) (kq q_66 rfl) (kq q_1224 rfl)) yd_X10_tell ⟨Nat.le_of_ble_eq_true rfl, Nat.le_of_ble_eq_true rfl⟩ hN hK hP hD [0, 2] rfl rfl (ci := 9) rfl rfl rfl rfl rfl hl.1 rfl (lv_room (Nat.le_of_ble_eq_true rfl)) dX10_least_234) hP hD hS hA [0, 2] rfl rfl (fun H locs hP hD hS => ?_)
        have hP : va_P (dC, dI) vwCl [cl_X10 h_this h_this_dayAt h_this_secondAt h_this_spans h_this_kept h_this_text h_this_row h_this_read h_this_many h_this_first h_this_lengths h_this_page i_this_5 j_this, (h_this_dayAt, .inl (cI, 8, .inl f_this_dayAt)), (h_this_row, .inl (cJ, 16, .inr (.inl f_this_row_6)))] H := hP
        have hD : va_D A [cl_X10 h_this h_this_dayAt h_this_secondAt h_this_spans h_this_kept h_this_text h_this_row h_this_read h_this_many h_this_first h_this_lengths h_this_page i_this_5 j_this, (h_this_dayAt, .inl (cI, 8, .inl f_this_dayAt)), (h_this_row, .inl (cJ, 16, .inr (.inl f_this_row_6)))] := hD
        refine lv_lload hx hb dX10_least_237 (lv_at hl 6 rfl) ?_
        refine lv_l2i hx hb dX10_least_239 rfl ?_
        obtain ⟨rfl, rfl, rfl, rfl⟩ := pj4 h
        exact hEnd _ _ _ _ hP hS dX10_least_240 rfl
      have h := ite_f c1 h
      refine lv_aload_n hx hb dX10_least_109 rfl (lv_at hl 0 rfl) ?_
      refine lv_iload hx hb dX10_least_110 (lv_at hl 2 rfl) ?_
      refine lv_iconst (v := (0 : Int32)) hx hb dX10_least_112 (by decide) ?_
      obtain ⟨i_this_8, hc9, h⟩ := bd1_at h
      refine kjV (kV (own := "DateSpansModel") (C := "DateSpansModel") (b := h_this) (As := [.int v4, .int (0 : Int32)]) (rest := []) ⟨hx, hb, hml, hown, hts⟩ (kX10_stands l dC dI cI cJ cB h_this h_this_dayAt h_this_secondAt h_this_spans h_this_kept h_this_text h_this_row h_this_read h_this_many h_this_first h_this_lengths h_this_page N v4 (0 : Int32) i_this j_this i_this_8 hc9 _) (kgV (kq q_1136 rfl) (kq q_1138 rfl) (kq q_24 rfl) (kq q_66 rfl) (kq q_1139 rfl)) yd_X10_stands ⟨Nat.le_of_ble_eq_true rfl, Nat.le_of_ble_eq_true rfl⟩ hN hK hP hD [0] rfl rfl (ci := 9) rfl rfl rfl rfl rfl hl.1 rfl (lv_room (Nat.le_of_ble_eq_true rfl)) dX10_least_113) hP hD hS hA [0] rfl rfl (fun H locs hP hD hS => ?_)
      have hP : va_P (dC, dI) vwCl [cl_X10 h_this h_this_dayAt h_this_secondAt h_this_spans h_this_kept h_this_text h_this_row h_this_read h_this_many h_this_first h_this_lengths h_this_page i_this_8 j_this, (h_this_dayAt, .inl (cI, 8, .inl f_this_dayAt)), (h_this_row, .inl (cJ, 16, .inr (.inl f_this_row)))] H := hP
      have hD : va_D A [cl_X10 h_this h_this_dayAt h_this_secondAt h_this_spans h_this_kept h_this_text h_this_row h_this_read h_this_many h_this_first h_this_lengths h_this_page i_this_8 j_this, (h_this_dayAt, .inl (cI, 8, .inl f_this_dayAt)), (h_this_row, .inl (cJ, 16, .inr (.inl f_this_row)))] := hD
      refine lv_aload_n hx hb dX10_least_116 rfl (lv_at hl 0 rfl) ?_
      refine lv_iload hx hb dX10_least_117 (lv_at hl 4 rfl) ?_
      refine lv_i2l hx hb dX10_least_119 rfl ?_
      refine lv_iload hx hb dX10_least_120 (lv_at hl 9 rfl) ?_
      refine lv_i2l hx hb dX10_least_122 rfl ?_
      refine lv_lmul hx hb dX10_least_123 ?_
      refine lv_iload_n hx hb dX10_least_124 rfl (lv_at hl 1 rfl) ?_
      obtain ⟨r10, i_this_11, hc12, h⟩ := bd2_at h
      refine kjI (kV (own := "DateSpansModel") (C := "DateSpansModel") (b := h_this) (As := [.long (v6.toInt64 * v12.toInt64), .int v3]) (rest := []) ⟨hx, hb, hml, hown, hts⟩ (kX10_addsMonths l dC dI cI cJ cB h_this h_this_dayAt h_this_secondAt h_this_spans h_this_kept h_this_text h_this_row h_this_read h_this_many h_this_first h_this_lengths h_this_page N (v6.toInt64 * v12.toInt64) v3 i_this_8 j_this r10 i_this_11 hc12 _) (kgV (kq q_1294 rfl) (kq q_1296 rfl) (kq q_35 rfl) (kq q_66 rfl) (kq q_1297 rfl)) yd_X10_addsMonths ⟨Nat.le_of_ble_eq_true rfl, Nat.le_of_ble_eq_true rfl⟩ hN hK hP hD [0] rfl rfl (ci := 9) rfl rfl rfl rfl rfl hl.1 rfl (lv_room (Nat.le_of_ble_eq_true rfl)) dX10_least_125) hP hD hS hA [0] rfl rfl (fun H locs hP hD hS => ?_)
      have hP : va_P (dC, dI) vwCl [cl_X10 h_this h_this_dayAt h_this_secondAt h_this_spans h_this_kept h_this_text h_this_row h_this_read h_this_many h_this_first h_this_lengths h_this_page i_this_11 j_this, (h_this_dayAt, .inl (cI, 8, .inl f_this_dayAt)), (h_this_row, .inl (cJ, 16, .inr (.inl f_this_row)))] H := hP
      have hD : va_D A [cl_X10 h_this h_this_dayAt h_this_secondAt h_this_spans h_this_kept h_this_text h_this_row h_this_read h_this_many h_this_first h_this_lengths h_this_page i_this_11 j_this, (h_this_dayAt, .inl (cI, 8, .inl f_this_dayAt)), (h_this_row, .inl (cJ, 16, .inr (.inl f_this_row)))] := hD
      refine lv_if_ne (tgt := 134) hx hb dX10_least_128 (by decide) (fun c13 => ?_) (fun c13 => ?_)
      · have h := ite_f c13 h
        refine lv_iload hx hb dX10_least_134 (lv_at hl 3 rfl) ?_
        refine lv_aload_n hx hb dX10_least_136 rfl (lv_at hl 0 rfl) ?_
        refine va_get (D := (dC, dI)) (ci := 9) (v := .int (i_this_11 13)) (C := RX10) (T := TX10) (N := 29) hx hb hts inX10 hown hK hP 0 rfl rfl 13 (by decide) (hts _ (kq q_999 rfl)) (fun _ h9 => h9) rfl dX10_least_137 ?_
        refine lv_isub hx hb dX10_least_140 ?_
        refine lv_topi (fun z14 ez14 => ?_)
        have h := nm_at ez14 h
        refine lv_istore (lv' := [(13, .int z14), (0, .ref h_this), (3, .int v3), (4, .int v4), (5, .int v5), (6, .int v6), (7, .int v7), (8, .long v8), (10, .int v10), (11, .int v11), (12, .int v12)]) hx hb dX10_least_141 hl (by decide) rfl (fun ls hl => ?_)
        refine lv_iload hx hb dX10_least_143 (lv_at hl 10 rfl) ?_
        refine lv_bipush (v := (12 : Int32)) hx hb dX10_least_145 (by decide) ?_
        refine lv_idiv hx hb dX10_least_147 (by decide) ?_
        refine lv_iload hx hb dX10_least_148 (lv_at hl 10 rfl) ?_
        refine lv_bipush (v := (12 : Int32)) hx hb dX10_least_150 (by decide) ?_
        refine lv_irem hx hb dX10_least_152 (by decide) ?_
        refine lv_iadd hx hb dX10_least_153 ?_
        refine lv_i2l hx hb dX10_least_154 rfl ?_
        refine lv_iload hx hb dX10_least_155 (lv_at hl 0 rfl) ?_
        refine lv_bipush (v := (7 : Int32)) hx hb dX10_least_157 (by decide) ?_
        refine lv_idiv hx hb dX10_least_159 (by decide) ?_
        refine lv_i2l hx hb dX10_least_160 rfl ?_
        obtain ⟨r15, hc16, h⟩ := bd1_at h
        refine kjSL (kS0 (own := "DateSpansModel") (As := [.long ((z14 / (7 : Int32)).toInt64)]) (rest := [.long (((v12 / (12 : Int32)) + (v12 - v12 / (12 : Int32) * (12 : Int32))).toInt64)]) ⟨hx, hb, hml, hown, hts⟩ (kX10_sizeOf l N ((z14 / (7 : Int32)).toInt64) r15 hc16) (kgS (kq q_1360 rfl) (kq q_1361 rfl) (kq q_66 rfl) (kq q_1362 rfl)) yd_X10_sizeOf ⟨Nat.le_of_ble_eq_true rfl, Nat.le_of_ble_eq_true rfl⟩ rfl rfl hl.1 rfl (lv_room (Nat.le_of_ble_eq_true rfl)) dX10_least_161) ?_
        refine lv_ladd hx hb dX10_least_164 ?_
        refine lv_iload hx hb dX10_least_165 (lv_at hl 0 rfl) ?_
        refine lv_bipush (v := (7 : Int32)) hx hb dX10_least_167 (by decide) ?_
        refine lv_irem hx hb dX10_least_169 (by decide) ?_
        refine lv_i2l hx hb dX10_least_170 rfl ?_
        obtain ⟨r17, hc18, h⟩ := bd1_at h
        refine kjSL (kS0 (own := "DateSpansModel") (As := [.long ((z14 - z14 / (7 : Int32) * (7 : Int32)).toInt64)]) (rest := [.long (((v12 / (12 : Int32)) + (v12 - v12 / (12 : Int32) * (12 : Int32))).toInt64 + r15)]) ⟨hx, hb, hml, hown, hts⟩ (kX10_sizeOf l N ((z14 - z14 / (7 : Int32) * (7 : Int32)).toInt64) r17 hc18) (kgS (kq q_1360 rfl) (kq q_1361 rfl) (kq q_66 rfl) (kq q_1362 rfl)) yd_X10_sizeOf ⟨Nat.le_of_ble_eq_true rfl, Nat.le_of_ble_eq_true rfl⟩ rfl rfl hl.1 rfl (lv_room (Nat.le_of_ble_eq_true rfl)) dX10_least_171) ?_
        refine lv_ladd hx hb dX10_least_174 ?_
        refine lv_topl (fun z19 ez19 => ?_)
        have h := nm_at ez19 h
        refine lv_lstore (lv' := [(14, .long z19), (13, .int z14), (0, .ref h_this), (3, .int v3), (4, .int v4), (5, .int v5), (6, .int v6), (7, .int v7), (8, .long v8), (10, .int v10), (11, .int v11), (12, .int v12)]) hx hb dX10_least_175 hl (by decide) rfl (fun ls hl => ?_)
        refine lv_lload hx hb dX10_least_177 (lv_at hl 8 rfl) ?_
        refine lv_ldc2 (v := (-1 : Int64)) hx hb hown (hts _ (kq q_1363 rfl)) dX10_least_179 ?_
        refine W.lcmp hx hb dX10_least_182 ?_
        refine lv_if_eq (tgt := 197) hx hb dX10_least_183 (by decide) (fun c20 => ?_) (fun c20 => ?_)
        · have h := ite_t c20 h
          refine lv_lload hx hb dX10_least_197 (lv_at hl 0 rfl) ?_
          refine lv_lstore (lv' := [(8, .long z19), (14, .long z19), (13, .int z14), (0, .ref h_this), (3, .int v3), (4, .int v4), (5, .int v5), (6, .int v6), (7, .int v7), (10, .int v10), (11, .int v11), (12, .int v12)]) hx hb dX10_least_199 hl (by decide) rfl (fun ls hl => ?_)
          refine lv_iload hx hb dX10_least_201 (lv_at hl 7 rfl) ?_
          refine lv_iload hx hb dX10_least_203 (lv_at hl 11 rfl) ?_
          refine lv_imul hx hb dX10_least_205 ?_
          refine lv_topi (fun z21 ez21 => ?_)
          have h := nm_at ez21 h
          refine lv_istore (lv' := [(10, .int z21), (8, .long z19), (14, .long z19), (13, .int z14), (0, .ref h_this), (3, .int v3), (4, .int v4), (5, .int v5), (6, .int v6), (7, .int v7), (11, .int v11), (12, .int v12)]) hx hb dX10_least_206 hl (by decide) rfl (fun ls hl => ?_)
          refine lv_iload hx hb dX10_least_208 (lv_at hl 3 rfl) ?_
          refine lv_istore (lv' := [(11, .int z14), (10, .int z21), (8, .long z19), (14, .long z19), (13, .int z14), (0, .ref h_this), (3, .int v3), (4, .int v4), (5, .int v5), (6, .int v6), (7, .int v7), (12, .int v12)]) hx hb dX10_least_210 hl (by decide) rfl (fun ls hl => ?_)
          obtain ⟨z22, ez22⟩ : ∃ y : Int32, y = (v12 + (1 : Int32)) := ⟨_, rfl⟩
          have h := nm_at ez22 h
          refine lv_iinc (v := z22) (lv' := [(12, .int z22), (11, .int z14), (10, .int z21), (8, .long z19), (14, .long z19), (13, .int z14), (0, .ref h_this), (3, .int v3), (4, .int v4), (5, .int v5), (6, .int v6), (7, .int v7)]) hx hb dX10_least_212 hl (k := 11) rfl (by rw [ez22]; rfl) (by decide) rfl (fun ls hl => ?_)
          refine lv_goto (tgt := 102) hx hb dX10_least_215 (by decide) ?_
          exact ih_102 _ _ _ _ _ _ _ _ _ _ _ _ _ _ _ h (lv_sub hl [6, 7, 8, 9, 10, 11, 3, 2, 1, 0] rfl) hP hD hS
        have h := ite_f c20 h
        refine lv_lload hx hb dX10_least_186 (lv_at hl 0 rfl) ?_
        refine lv_lload hx hb dX10_least_188 (lv_at hl 8 rfl) ?_
        refine W.lcmp hx hb dX10_least_190 ?_
        refine lv_if_lt (tgt := 197) hx hb dX10_least_191 (by decide) (fun c23 => ?_) (fun c23 => ?_)
        · have h := ite_t c23 h
          refine lv_lload hx hb dX10_least_197 (lv_at hl 0 rfl) ?_
          refine lv_lstore (lv' := [(8, .long z19), (14, .long z19), (13, .int z14), (0, .ref h_this), (3, .int v3), (4, .int v4), (5, .int v5), (6, .int v6), (7, .int v7), (10, .int v10), (11, .int v11), (12, .int v12)]) hx hb dX10_least_199 hl (by decide) rfl (fun ls hl => ?_)
          refine lv_iload hx hb dX10_least_201 (lv_at hl 7 rfl) ?_
          refine lv_iload hx hb dX10_least_203 (lv_at hl 11 rfl) ?_
          refine lv_imul hx hb dX10_least_205 ?_
          refine lv_topi (fun z24 ez24 => ?_)
          have h := nm_at ez24 h
          refine lv_istore (lv' := [(10, .int z24), (8, .long z19), (14, .long z19), (13, .int z14), (0, .ref h_this), (3, .int v3), (4, .int v4), (5, .int v5), (6, .int v6), (7, .int v7), (11, .int v11), (12, .int v12)]) hx hb dX10_least_206 hl (by decide) rfl (fun ls hl => ?_)
          refine lv_iload hx hb dX10_least_208 (lv_at hl 3 rfl) ?_
          refine lv_istore (lv' := [(11, .int z14), (10, .int z24), (8, .long z19), (14, .long z19), (13, .int z14), (0, .ref h_this), (3, .int v3), (4, .int v4), (5, .int v5), (6, .int v6), (7, .int v7), (12, .int v12)]) hx hb dX10_least_210 hl (by decide) rfl (fun ls hl => ?_)
          obtain ⟨z25, ez25⟩ : ∃ y : Int32, y = (v12 + (1 : Int32)) := ⟨_, rfl⟩
          have h := nm_at ez25 h
          refine lv_iinc (v := z25) (lv' := [(12, .int z25), (11, .int z14), (10, .int z24), (8, .long z19), (14, .long z19), (13, .int z14), (0, .ref h_this), (3, .int v3), (4, .int v4), (5, .int v5), (6, .int v6), (7, .int v7)]) hx hb dX10_least_212 hl (k := 11) rfl (by rw [ez25]; rfl) (by decide) rfl (fun ls hl => ?_)
          refine lv_goto (tgt := 102) hx hb dX10_least_215 (by decide) ?_
          exact ih_102 _ _ _ _ _ _ _ _ _ _ _ _ _ _ _ h (lv_sub hl [6, 7, 8, 9, 10, 11, 3, 2, 1, 0] rfl) hP hD hS
        have h := ite_f c23 h
        refine lv_goto (tgt := 212) hx hb dX10_least_194 (by decide) ?_
        obtain ⟨z26, ez26⟩ : ∃ y : Int32, y = (v12 + (1 : Int32)) := ⟨_, rfl⟩
        have h := nm_at ez26 h
        refine lv_iinc (v := z26) (lv' := [(12, .int z26), (14, .long z19), (13, .int z14), (0, .ref h_this), (3, .int v3), (4, .int v4), (5, .int v5), (6, .int v6), (7, .int v7), (8, .long v8), (10, .int v10), (11, .int v11)]) hx hb dX10_least_212 hl (k := 11) rfl (by rw [ez26]; rfl) (by decide) rfl (fun ls hl => ?_)
        refine lv_goto (tgt := 102) hx hb dX10_least_215 (by decide) ?_
        exact ih_102 _ _ _ _ _ _ _ _ _ _ _ _ _ _ _ h (lv_sub hl [3, 4, 5, 6, 7, 8, 9, 10, 11, 0] rfl) hP hD hS
      have h := ite_t c13 h
      refine lv_goto (tgt := 212) hx hb dX10_least_131 (by decide) ?_
      obtain ⟨z27, ez27⟩ : ∃ y : Int32, y = (v12 + (1 : Int32)) := ⟨_, rfl⟩
      have h := nm_at ez27 h
      refine lv_iinc (v := z27) (lv' := [(12, .int z27), (0, .ref h_this), (3, .int v3), (4, .int v4), (5, .int v5), (6, .int v6), (7, .int v7), (8, .long v8), (10, .int v10), (11, .int v11)]) hx hb dX10_least_212 hl (k := 9) rfl (by rw [ez27]; rfl) (by decide) rfl (fun ls hl => ?_)
      refine lv_goto (tgt := 102) hx hb dX10_least_215 (by decide) ?_
      exact ih_102 _ _ _ _ _ _ _ _ _ _ _ _ _ _ _ h (lv_sub hl [1, 2, 3, 4, 5, 6, 7, 8, 9, 0] rfl) hP hD hS
  have JN_73 : ∀ (v3 : Int32) (v4 : Int32) (v5 : Int32) (t0 : Int32) (i_this : Nat → Int32) (j_this : Nat → Int64) (f_this_row : Nat → Int64) (ls : Array Slot) (H : Heap) (locs : List Loc), (fX10_least_j73 N f_this_dayAt) v3 v4 v5 t0 i_this j_this f_this_row = some (r, o_i_this, o_j_this, o_f_this_row) → lv_has ls 16 [(0, .ref h_this), (3, .int v3), (4, .int v4), (5, .int v5)] → va_P (dC, dI) vwCl [cl_X10 h_this h_this_dayAt h_this_secondAt h_this_spans h_this_kept h_this_text h_this_row h_this_read h_this_many h_this_first h_this_lengths h_this_page i_this j_this, (h_this_dayAt, .inl (cI, 8, .inl f_this_dayAt)), (h_this_row, .inl (cJ, 16, .inr (.inl f_this_row)))] H → va_D A [cl_X10 h_this h_this_dayAt h_this_secondAt h_this_spans h_this_kept h_this_text h_this_row h_this_read h_this_many h_this_first h_this_lengths h_this_page i_this j_this, (h_this_dayAt, .inl (cI, 8, .inl f_this_dayAt)), (h_this_row, .inl (cJ, 16, .inr (.inl f_this_row)))] → va_S A s.heap H locs → W p l e (kR 6 158) s m args below meth c H locs 0 0 Q (F0 m 73 ls [.int t0]) := by
    intro v3 v4 v5 t0 i_this j_this f_this_row ls H locs h hl hP hD hS
    unfold fX10_least_j73 at h
    refine lv_istore (lv' := [(6, .int t0), (0, .ref h_this), (3, .int v3), (4, .int v4), (5, .int v5)]) hx hb dX10_least_73 hl (by decide) rfl (fun ls hl => ?_)
    refine lv_aload_n hx hb dX10_least_75 rfl (lv_at hl 1 rfl) ?_
    refine va_get (D := (dC, dI)) (ci := 9) (v := .long (j_this 20)) (C := RX10) (T := TX10) (N := 29) hx hb hts inX10 hown hK hP 0 rfl rfl 20 (by decide) (hts _ (kq q_1006 rfl)) (fun _ h9 => h9) rfl dX10_least_76 ?_
    obtain ⟨r28, hc29, h⟩ := bd1_at h
    refine kjSL (kS0 (own := "DateSpansModel") (As := [.long (j_this 20)]) (rest := []) ⟨hx, hb, hml, hown, hts⟩ (kX10_sizeOf l N (j_this 20) r28 hc29) (kgS (kq q_1360 rfl) (kq q_1361 rfl) (kq q_66 rfl) (kq q_1362 rfl)) yd_X10_sizeOf ⟨Nat.le_of_ble_eq_true rfl, Nat.le_of_ble_eq_true rfl⟩ rfl rfl hl.1 rfl (lv_room (Nat.le_of_ble_eq_true rfl)) dX10_least_79) ?_
    refine lv_l2i hx hb dX10_least_82 rfl ?_
    refine lv_bipush (v := (12 : Int32)) hx hb dX10_least_83 (by decide) ?_
    refine lv_iadd hx hb dX10_least_85 ?_
    refine lv_topi (fun z30 ez30 => ?_)
    have h := nm_at ez30 h
    refine lv_istore (lv' := [(7, .int z30), (6, .int t0), (0, .ref h_this), (3, .int v3), (4, .int v4), (5, .int v5)]) hx hb dX10_least_86 hl (by decide) rfl (fun ls hl => ?_)
    refine lv_ldc2 (v := (-1 : Int64)) hx hb hown (hts _ (kq q_1363 rfl)) dX10_least_88 ?_
    refine lv_lstore (lv' := [(8, .long (-1 : Int64)), (7, .int z30), (6, .int t0), (0, .ref h_this), (3, .int v3), (4, .int v4), (5, .int v5)]) hx hb dX10_least_91 hl (by decide) rfl (fun ls hl => ?_)
    refine lv_iconst (v := (0 : Int32)) hx hb dX10_least_93 (by decide) ?_
    refine lv_istore (lv' := [(10, .int (0 : Int32)), (8, .long (-1 : Int64)), (7, .int z30), (6, .int t0), (0, .ref h_this), (3, .int v3), (4, .int v4), (5, .int v5)]) hx hb dX10_least_94 hl (by decide) rfl (fun ls hl => ?_)
    refine lv_iconst (v := (0 : Int32)) hx hb dX10_least_96 (by decide) ?_
    refine lv_istore (lv' := [(11, .int (0 : Int32)), (10, .int (0 : Int32)), (8, .long (-1 : Int64)), (7, .int z30), (6, .int t0), (0, .ref h_this), (3, .int v3), (4, .int v4), (5, .int v5)]) hx hb dX10_least_97 hl (by decide) rfl (fun ls hl => ?_)
    refine lv_iconst (v := (0 : Int32)) hx hb dX10_least_99 (by decide) ?_
    refine lv_istore (lv' := [(12, .int (0 : Int32)), (11, .int (0 : Int32)), (10, .int (0 : Int32)), (8, .long (-1 : Int64)), (7, .int z30), (6, .int t0), (0, .ref h_this), (3, .int v3), (4, .int v4), (5, .int v5)]) hx hb dX10_least_100 hl (by decide) rfl (fun ls hl => ?_)
    exact LP_102 N _ _ _ _ _ _ _ _ _ _ _ _ _ _ _ h (lv_sub hl [6, 7, 8, 9, 5, 4, 3, 2, 1, 0] rfl) hP hD hS
  have h := hf
  unfold fX10_least at h
  refine lv_aload_n hx hb dX10_least_0 rfl (lv_at hl 0 rfl) ?_
  refine lv_iconst (v := (0 : Int32)) hx hb dX10_least_1 (by decide) ?_
  refine va_put (D := (dC, dI)) (ci := 9) (v := .int (0 : Int32)) (ty := .int) (C := RX10) (T := TX10) (N := 29) hx hb hts inX10 tyX10 tyX10_ok nmX10 hown hK hP hD hS 0 rfl rfl 9 (by decide) (hts _ (kq q_995 rfl)) (fun _ h9 => h9) rfl (by decide +kernel) rfl rfl (Nat.le_of_ble_eq_true rfl) dX10_least_2 (fun H locs hP hD hS => ?_)
  have hP : va_P (dC, dI) vwCl [(h_this, .inr (9, [.ref h_this_dayAt, .ref h_this_secondAt, .ref h_this_spans, .ref h_this_kept, .int (i_this 4), .ref h_this_text, .int (i_this 6), .ref h_this_row, .int (i_this 8), .int (0 : Int32), .int (i_this 10), .int (i_this 11), .int (i_this 12), .int (i_this 13), .int (i_this 14), .int (i_this 15), .int (i_this 16), .int (i_this 17), .int (i_this 18), .ref h_this_read, .long (j_this 20), .ref h_this_many, .ref h_this_first, .ref h_this_lengths, .int (i_this 24), .long (j_this 25), .long (j_this 26), .ref h_this_page, .int (i_this 28)])), (h_this_dayAt, .inl (cI, 8, .inl f_this_dayAt)), (h_this_row, .inl (cJ, 16, .inr (.inl f_this_row)))] H := hP
  have hD : va_D A [(h_this, .inr (9, [.ref h_this_dayAt, .ref h_this_secondAt, .ref h_this_spans, .ref h_this_kept, .int (i_this 4), .ref h_this_text, .int (i_this 6), .ref h_this_row, .int (i_this 8), .int (0 : Int32), .int (i_this 10), .int (i_this 11), .int (i_this 12), .int (i_this 13), .int (i_this 14), .int (i_this 15), .int (i_this 16), .int (i_this 17), .int (i_this 18), .ref h_this_read, .long (j_this 20), .ref h_this_many, .ref h_this_first, .ref h_this_lengths, .int (i_this 24), .long (j_this 25), .long (j_this 26), .ref h_this_page, .int (i_this 28)])), (h_this_dayAt, .inl (cI, 8, .inl f_this_dayAt)), (h_this_row, .inl (cJ, 16, .inr (.inl f_this_row)))] := hD
  refine lv_iload_n hx hb dX10_least_5 rfl (lv_at hl 1 rfl) ?_
  have hP : va_P (dC, dI) vwCl [cl_X10 h_this h_this_dayAt h_this_secondAt h_this_spans h_this_kept h_this_text h_this_row h_this_read h_this_many h_this_first h_this_lengths h_this_page (upd i_this 9 (0 : Int32)) j_this, (h_this_dayAt, .inl (cI, 8, .inl f_this_dayAt)), (h_this_row, .inl (cJ, 16, .inr (.inl f_this_row)))] H := hP
  have hD : va_D A [cl_X10 h_this h_this_dayAt h_this_secondAt h_this_spans h_this_kept h_this_text h_this_row h_this_read h_this_many h_this_first h_this_lengths h_this_page (upd i_this 9 (0 : Int32)) j_this, (h_this_dayAt, .inl (cI, 8, .inl f_this_dayAt)), (h_this_row, .inl (cJ, 16, .inr (.inl f_this_row)))] := hD
  obtain ⟨r31, hc32, h⟩ := bd1_at h
  refine kjSI (kS0 (own := "DateSpansModel") (As := [.int p1]) (rest := []) ⟨hx, hb, hml, hown, hts⟩ (kX10_isSlot l N p1 r31 hc32) (kgS (kq q_1123 rfl) (kq q_1124 rfl) (kq q_66 rfl) (kq q_1125 rfl)) yd_X10_isSlot ⟨Nat.le_of_ble_eq_true rfl, Nat.le_of_ble_eq_true rfl⟩ rfl rfl hl.1 rfl (lv_room (Nat.le_of_ble_eq_true rfl)) dX10_least_6) ?_
  refine lv_if_eq (tgt := 26) hx hb dX10_least_9 (by decide) (fun c33 => ?_) (fun c33 => ?_)
  · have h := ite_t c33 h
    refine lv_iconst (v := (-1 : Int32)) hx hb dX10_least_26 (by decide) ?_
    obtain ⟨rfl, rfl, rfl, rfl⟩ := pj4 h
    exact hEnd _ _ _ _ hP hS dX10_least_27 rfl
  have h := ite_f c33 h
  refine lv_iload_n hx hb dX10_least_12 rfl (lv_at hl 2 rfl) ?_
  obtain ⟨r34, hc35, h⟩ := bd1_at h
  refine kjSI (kS0 (own := "DateSpansModel") (As := [.int p2]) (rest := []) ⟨hx, hb, hml, hown, hts⟩ (kX10_isSlot l N p2 r34 hc35) (kgS (kq q_1123 rfl) (kq q_1124 rfl) (kq q_66 rfl) (kq q_1125 rfl)) yd_X10_isSlot ⟨Nat.le_of_ble_eq_true rfl, Nat.le_of_ble_eq_true rfl⟩ rfl rfl hl.1 rfl (lv_room (Nat.le_of_ble_eq_true rfl)) dX10_least_13) ?_
  refine lv_if_eq (tgt := 26) hx hb dX10_least_16 (by decide) (fun c36 => ?_) (fun c36 => ?_)
  · have h := ite_t c36 h
    refine lv_iconst (v := (-1 : Int32)) hx hb dX10_least_26 (by decide) ?_
    obtain ⟨rfl, rfl, rfl, rfl⟩ := pj4 h
    exact hEnd _ _ _ _ hP hS dX10_least_27 rfl
  have h := ite_f c36 h
  refine lv_iload_n hx hb dX10_least_19 rfl (lv_at hl 3 rfl) ?_
  obtain ⟨r37, hc38, h⟩ := bd1_at h
  refine kjSI (kS0 (own := "DateSpansModel") (As := [.int p3]) (rest := []) ⟨hx, hb, hml, hown, hts⟩ (kX10_isLaw l N p3 r37 hc38) (kgS (kq q_1275 rfl) (kq q_1276 rfl) (kq q_66 rfl) (kq q_1277 rfl)) yd_X10_isLaw ⟨Nat.le_of_ble_eq_true rfl, Nat.le_of_ble_eq_true rfl⟩ rfl rfl hl.1 rfl (lv_room (Nat.le_of_ble_eq_true rfl)) dX10_least_20) ?_
  refine lv_if_ne (tgt := 28) hx hb dX10_least_23 (by decide) (fun c39 => ?_) (fun c39 => ?_)
  · have h := ite_f c39 h
    refine lv_aload_n hx hb dX10_least_28 rfl (lv_at hl 0 rfl) ?_
    refine va_get (D := (dC, dI)) (ci := 9) (v := .ref h_this_dayAt) (C := RX10) (T := TX10) (N := 29) hx hb hts inX10 hown hK hP 0 rfl rfl 0 (by decide) (hts _ (kq q_986 rfl)) (fun _ h9 => h9) rfl dX10_least_29 ?_
    refine lv_iload_n hx hb dX10_least_32 rfl (lv_at hl 1 rfl) ?_
    obtain ⟨hi40, h⟩ := gi_at h
    refine va_iald hx hb hK hP 1 0 rfl rfl hi40 dX10_least_33 ?_
    refine lv_topi (fun z41 ez41 => ?_)
    have h := nm_at ez41 h
    refine lv_istore (lv' := [(4, .int z41), (0, .ref h_this), (1, .int p1), (2, .int p2), (3, .int p3)]) hx hb dX10_least_34 hl (by decide) rfl (fun ls hl => ?_)
    refine lv_aload_n hx hb dX10_least_36 rfl (lv_at hl 1 rfl) ?_
    refine va_get (D := (dC, dI)) (ci := 9) (v := .ref h_this_dayAt) (C := RX10) (T := TX10) (N := 29) hx hb hts inX10 hown hK hP 0 rfl rfl 0 (by decide) (hts _ (kq q_986 rfl)) (fun _ h9 => h9) rfl dX10_least_37 ?_
    refine lv_iload_n hx hb dX10_least_40 rfl (lv_at hl 3 rfl) ?_
    obtain ⟨hi42, h⟩ := gi_at h
    refine va_iald hx hb hK hP 1 0 rfl rfl hi42 dX10_least_41 ?_
    refine lv_topi (fun z43 ez43 => ?_)
    have h := nm_at ez43 h
    refine lv_istore (lv' := [(5, .int z43), (4, .int z41), (0, .ref h_this), (1, .int p1), (2, .int p2), (3, .int p3)]) hx hb dX10_least_42 hl (by decide) rfl (fun ls hl => ?_)
    refine lv_aload_n hx hb dX10_least_44 rfl (lv_at hl 2 rfl) ?_
    refine lv_iload hx hb dX10_least_45 (lv_at hl 1 rfl) ?_
    refine lv_iconst (v := (0 : Int32)) hx hb dX10_least_47 (by decide) ?_
    refine lv_iload hx hb dX10_least_48 (lv_at hl 0 rfl) ?_
    refine lv_i2l hx hb dX10_least_50 rfl ?_
    refine lv_ldc2 (v := (86400 : Int64)) hx hb hown (hts _ (kq q_1309 rfl)) dX10_least_51 ?_
    refine lv_lmul hx hb dX10_least_54 ?_
    refine lv_iload_n hx hb dX10_least_55 rfl (lv_at hl 5 rfl) ?_
    refine lv_bipush (v := (7 : Int32)) hx hb dX10_least_56 (by decide) ?_
    obtain ⟨i_this_44, j_this_45, hc46, h⟩ := bd2_at h
    refine kjV (kV (own := "DateSpansModel") (C := "DateSpansModel") (b := h_this) (As := [.int z41, .int (0 : Int32), .long (z43.toInt64 * (86400 : Int64)), .int p3, .int (7 : Int32)]) (rest := []) ⟨hx, hb, hml, hown, hts⟩ (kX10_differs l dC dI cI cJ cB h_this h_this_dayAt h_this_secondAt h_this_spans h_this_kept h_this_text h_this_row h_this_read h_this_many h_this_first h_this_lengths h_this_page N z41 (0 : Int32) (z43.toInt64 * (86400 : Int64)) p3 (7 : Int32) (upd i_this 9 (0 : Int32)) j_this i_this_44 j_this_45 hc46 _) (kgV (kq q_1344 rfl) (kq q_1346 rfl) (kq q_40 rfl) (kq q_66 rfl) (kq q_1347 rfl)) yd_X10_differs ⟨Nat.le_of_ble_eq_true rfl, Nat.le_of_ble_eq_true rfl⟩ hN hK hP hD [0] rfl rfl (ci := 9) rfl rfl rfl rfl rfl hl.1 rfl (lv_room (Nat.le_of_ble_eq_true rfl)) dX10_least_58) hP hD hS hA [0] rfl rfl (fun H locs hP hD hS => ?_)
    have hP : va_P (dC, dI) vwCl [cl_X10 h_this h_this_dayAt h_this_secondAt h_this_spans h_this_kept h_this_text h_this_row h_this_read h_this_many h_this_first h_this_lengths h_this_page i_this_44 j_this_45, (h_this_dayAt, .inl (cI, 8, .inl f_this_dayAt)), (h_this_row, .inl (cJ, 16, .inr (.inl f_this_row)))] H := hP
    have hD : va_D A [cl_X10 h_this h_this_dayAt h_this_secondAt h_this_spans h_this_kept h_this_text h_this_row h_this_read h_this_many h_this_first h_this_lengths h_this_page i_this_44 j_this_45, (h_this_dayAt, .inl (cI, 8, .inl f_this_dayAt)), (h_this_row, .inl (cJ, 16, .inr (.inl f_this_row)))] := hD
    refine lv_iload hx hb dX10_least_61 (lv_at hl 0 rfl) ?_
    refine lv_iload hx hb dX10_least_63 (lv_at hl 1 rfl) ?_
    refine lv_icmp_ge (tgt := 72) hx hb dX10_least_65 (by decide) (fun c47 => ?_) (fun c47 => ?_)
    · have h := ite_t c47 h
      refine lv_iconst (v := (1 : Int32)) hx hb dX10_least_72 (by decide) ?_
      exact JN_73 _ _ _ _ _ _ _ _ _ _ h (lv_sub hl [2, 5, 1, 0] rfl) hP hD hS
    have h := ite_f c47 h
    refine lv_iconst (v := (-1 : Int32)) hx hb dX10_least_68 (by decide) ?_
    refine lv_goto (tgt := 73) hx hb dX10_least_69 (by decide) ?_
    exact JN_73 _ _ _ _ _ _ _ _ _ _ h (lv_sub hl [2, 5, 1, 0] rfl) hP hD hS
  have h := ite_t c39 h
  refine lv_iconst (v := (-1 : Int32)) hx hb dX10_least_26 (by decide) ?_
  obtain ⟨rfl, rfl, rfl, rfl⟩ := pj4 h
  exact hEnd _ _ _ _ hP hS dX10_least_27 rfl
noncomputable def fX10_age_j106 (N : Nat) (j_this : Nat → Int64) (f_this_dayAt : Nat → Int32) (K_71 : Int32 → Int32 → Int32 → Int32 → (Nat → Int32) → (Nat → Int64) → Option (Int32 × (Nat → Int32) × (Nat → Int64))) (v3 : Int32) (v4 : Int32) (v6 : Int32) (i_this : Nat → Int32) (f_this_row : Nat → Int64) : Option (Int32 × (Nat → Int32) × (Nat → Int64)) := (if v6 = (0 : Int32) then (if (1 : Int32) = (0 : Int32) then (nm (v6 + (-1 : Int32)) fun z5 => (K_71 v3 v4 z5 (1 : Int32) i_this f_this_row)) else (K_71 v3 v4 v6 (1 : Int32) i_this f_this_row)) else (if (0 : Int32) = (0 : Int32) then (nm (v6 + (-1 : Int32)) fun z3 => (K_71 v3 v4 z3 (0 : Int32) i_this f_this_row)) else (K_71 v3 v4 v6 (0 : Int32) i_this f_this_row)))
noncomputable def fX10_age_l71 (N : Nat) (j_this : Nat → Int64) (f_this_dayAt : Nat → Int32) (n : Nat) : Int32 → Int32 → Int32 → Int32 → (Nat → Int32) → (Nat → Int64) → Option (Int32 × (Nat → Int32) × (Nat → Int64)) := Nat.rec (motive := fun _ => Int32 → Int32 → Int32 → Int32 → (Nat → Int32) → (Nat → Int64) → Option (Int32 × (Nat → Int32) × (Nat → Int64))) (fun _ _ _ _ _ _ => none) (fun _ K_71 v3 v4 v6 v7 i_this f_this_row => (if v7 = (0 : Int32) then (bd1 (fX10_stands N v3 (0 : Int32) i_this j_this) fun i_this_23 => (bd2 (fX10_addsMonths N ((12 : Int64) * v6.toInt64) (0 : Int32) i_this_23 j_this) fun r25 i_this_26 => (if r25 = (0 : Int32) then (fX10_age_j106 N j_this f_this_dayAt K_71 v3 v4 v6 i_this_26 f_this_row) else (if (i_this_26 13) ≤ v4 then (if (1 : Int32) = (0 : Int32) then (nm (v6 + (-1 : Int32)) fun z31 => (K_71 v3 v4 z31 (1 : Int32) i_this_26 f_this_row)) else (K_71 v3 v4 v6 (1 : Int32) i_this_26 f_this_row)) else (fX10_age_j106 N j_this f_this_dayAt K_71 v3 v4 v6 i_this_26 f_this_row))))) else (nm (i_this 13) fun z7 => (bd1 (fX10_stands N v3 (0 : Int32) i_this j_this) fun i_this_8 => (bd2 (fX10_addsMonths N ((12 : Int64) * (v6 + (1 : Int32)).toInt64) (0 : Int32) i_this_8 j_this) fun r10 i_this_11 => (bd2 (fX10_tell N ((v4 - z7).toInt64) (upd i_this_11 8 (0 : Int32)) j_this f_this_row) fun i_this_13 f_this_row_14 => (if r10 = (0 : Int32) then (bd2 (fX10_tell N (-2 : Int64) i_this_13 j_this f_this_row_14) fun i_this_17 f_this_row_18 => (some (v6, i_this_17, f_this_row_18))) else (bd2 (fX10_tell N (((i_this_13 13) - v4).toInt64) i_this_13 j_this f_this_row_14) fun i_this_20 f_this_row_21 => (some (v6, i_this_20, f_this_row_21)))))))))) n
theorem fX10_age_l71_s (N : Nat) (j_this : Nat → Int64) (f_this_dayAt : Nat → Int32) (n : Nat) (v3 : Int32) (v4 : Int32) (v6 : Int32) (v7 : Int32) (i_this : Nat → Int32) (f_this_row : Nat → Int64) : fX10_age_l71 N j_this f_this_dayAt (n + 1) v3 v4 v6 v7 i_this f_this_row = (if v7 = (0 : Int32) then (bd1 (fX10_stands N v3 (0 : Int32) i_this j_this) fun i_this_23 => (bd2 (fX10_addsMonths N ((12 : Int64) * v6.toInt64) (0 : Int32) i_this_23 j_this) fun r25 i_this_26 => (if r25 = (0 : Int32) then (fX10_age_j106 N j_this f_this_dayAt (fX10_age_l71 N j_this f_this_dayAt n) v3 v4 v6 i_this_26 f_this_row) else (if (i_this_26 13) ≤ v4 then (if (1 : Int32) = (0 : Int32) then (nm (v6 + (-1 : Int32)) fun z31 => ((fX10_age_l71 N j_this f_this_dayAt n) v3 v4 z31 (1 : Int32) i_this_26 f_this_row)) else ((fX10_age_l71 N j_this f_this_dayAt n) v3 v4 v6 (1 : Int32) i_this_26 f_this_row)) else (fX10_age_j106 N j_this f_this_dayAt (fX10_age_l71 N j_this f_this_dayAt n) v3 v4 v6 i_this_26 f_this_row))))) else (nm (i_this 13) fun z7 => (bd1 (fX10_stands N v3 (0 : Int32) i_this j_this) fun i_this_8 => (bd2 (fX10_addsMonths N ((12 : Int64) * (v6 + (1 : Int32)).toInt64) (0 : Int32) i_this_8 j_this) fun r10 i_this_11 => (bd2 (fX10_tell N ((v4 - z7).toInt64) (upd i_this_11 8 (0 : Int32)) j_this f_this_row) fun i_this_13 f_this_row_14 => (if r10 = (0 : Int32) then (bd2 (fX10_tell N (-2 : Int64) i_this_13 j_this f_this_row_14) fun i_this_17 f_this_row_18 => (some (v6, i_this_17, f_this_row_18))) else (bd2 (fX10_tell N (((i_this_13 13) - v4).toInt64) i_this_13 j_this f_this_row_14) fun i_this_20 f_this_row_21 => (some (v6, i_this_20, f_this_row_21))))))))) := rfl
theorem fX10_age_l71_0 (N : Nat) (j_this : Nat → Int64) (f_this_dayAt : Nat → Int32) (v3 : Int32) (v4 : Int32) (v6 : Int32) (v7 : Int32) (i_this : Nat → Int32) (f_this_row : Nat → Int64) : fX10_age_l71 N j_this f_this_dayAt 0 v3 v4 v6 v7 i_this f_this_row = none := rfl
noncomputable def fX10_age (N : Nat) (p1 : Int32) (p2 : Int32) (i_this : Nat → Int32) (j_this : Nat → Int64) (f_this_dayAt : Nat → Int32) (f_this_row : Nat → Int64) : Option (Int32 × (Nat → Int32) × (Nat → Int64)) := (bd1 (fX10_isSlot N p1) fun r32 => (if r32 = (0 : Int32) then (some ((-1 : Int32), (upd i_this 9 (0 : Int32)), f_this_row)) else (bd1 (fX10_isSlot N p2) fun r35 => (if r35 = (0 : Int32) then (some ((-1 : Int32), (upd i_this 9 (0 : Int32)), f_this_row)) else (gi p1 8 (nm (f_this_dayAt p1.toNatClampNeg) fun z39 => (gi p2 8 (nm (f_this_dayAt p2.toNatClampNeg) fun z41 => (bd1 (fX10_dates N z39 (upd i_this 9 (0 : Int32)) j_this) fun i_this_42 => (nm (i_this_42 10) fun z44 => (bd1 (fX10_dates N z41 i_this_42 j_this) fun i_this_45 => (nm (if (0 : Int32) < (((i_this_45 10) - z44) + (1 : Int32)) then (((i_this_45 10) - z44) + (1 : Int32)) else (0 : Int32)) fun z47 => (fX10_age_l71 N j_this f_this_dayAt N z39 z41 z47 (0 : Int32) i_this_45 f_this_row)))))))))))))
set_option maxHeartbeats 4000000 in
set_option maxRecDepth 100000 in
theorem kX10_age (l : Launch) (dC : Nat → ClassId) (dI : Nat → Nat → Nat) (cI cJ cB : ClassId) (h_this h_this_dayAt h_this_secondAt h_this_spans h_this_kept h_this_text h_this_row h_this_read h_this_many h_this_first h_this_lengths h_this_page : Nat) (N : Nat) (p1 : Int32) (p2 : Int32) (i_this : Nat → Int32) (j_this : Nat → Int64) (f_this_dayAt : Nat → Int32) (f_this_row : Nat → Int64) (r : Int32) (o_i_this : Nat → Int32) (o_f_this_row : Nat → Int64) (hf : fX10_age N p1 p2 i_this j_this f_this_dayAt f_this_row = some (r, o_i_this, o_f_this_row)) : MI l yX10_age (kws yX10_age cX10_age 10 (some .int)) (kR 4 97) (dC, dI) (kT cI cJ cB) [.ref h_this, .int p1, .int p2] [cl_X10 h_this h_this_dayAt h_this_secondAt h_this_spans h_this_kept h_this_text h_this_row h_this_read h_this_many h_this_first h_this_lengths h_this_page i_this j_this, (h_this_dayAt, .inl (cI, 8, .inl f_this_dayAt)), (h_this_row, .inl (cJ, 16, .inr (.inl f_this_row)))] [cl_X10 h_this h_this_dayAt h_this_secondAt h_this_spans h_this_kept h_this_text h_this_row h_this_read h_this_many h_this_first h_this_lengths h_this_page o_i_this j_this, (h_this_dayAt, .inl (cI, 8, .inl f_this_dayAt)), (h_this_row, .inl (cJ, 16, .inr (.inl o_f_this_row)))] r := by
  refine MI.of (cc := cX10_age) (maxL := 10) (by decide) (Nat.le_of_ble_eq_true rfl) (fun p e s m args below meth c A Q ls KC hN hK hP hD hA hl hEnd => ?_)
  obtain ⟨hx, hb, hml, hown, hts⟩ := KC
  have hown : s.vm.findClass "DateSpansModel" = some m.cls := hown
  have hl : lv_has ls 10 [(0, .ref h_this), (1, .int p1), (2, .int p2)] := hl
  have hS : va_S A s.heap s.heap [] := va_S.rf
  have LP_71 : ∀ n_71 : Nat, ∀ (v3 : Int32) (v4 : Int32) (v6 : Int32) (v7 : Int32) (i_this : Nat → Int32) (f_this_row : Nat → Int64) (ls : Array Slot) (H : Heap) (locs : List Loc), fX10_age_l71 N j_this f_this_dayAt n_71 v3 v4 v6 v7 i_this f_this_row = some (r, o_i_this, o_f_this_row) → lv_has ls 10 [(0, .ref h_this), (3, .int v3), (4, .int v4), (6, .int v6), (7, .int v7)] → va_P (dC, dI) vwCl [cl_X10 h_this h_this_dayAt h_this_secondAt h_this_spans h_this_kept h_this_text h_this_row h_this_read h_this_many h_this_first h_this_lengths h_this_page i_this j_this, (h_this_dayAt, .inl (cI, 8, .inl f_this_dayAt)), (h_this_row, .inl (cJ, 16, .inr (.inl f_this_row)))] H → va_D A [cl_X10 h_this h_this_dayAt h_this_secondAt h_this_spans h_this_kept h_this_text h_this_row h_this_read h_this_many h_this_first h_this_lengths h_this_page i_this j_this, (h_this_dayAt, .inl (cI, 8, .inl f_this_dayAt)), (h_this_row, .inl (cJ, 16, .inr (.inl f_this_row)))] → va_S A s.heap H locs → W p l e (kR 4 97) s m args below meth c H locs 0 0 Q (F0 m 71 ls []) := by
    intro n_71
    induction n_71 with
    | zero =>
      intro v3 v4 v6 v7 i_this f_this_row ls H locs h hl hP hD hS
      rw [fX10_age_l71_0] at h; cases h
    | succ n_71 ih_71 =>
      have JN_106 : ∀ (v3 : Int32) (v4 : Int32) (v6 : Int32) (i_this : Nat → Int32) (f_this_row : Nat → Int64) (ls : Array Slot) (H : Heap) (locs : List Loc), (fX10_age_j106 N j_this f_this_dayAt (fX10_age_l71 N j_this f_this_dayAt n_71)) v3 v4 v6 i_this f_this_row = some (r, o_i_this, o_f_this_row) → lv_has ls 10 [(0, .ref h_this), (3, .int v3), (4, .int v4), (6, .int v6)] → va_P (dC, dI) vwCl [cl_X10 h_this h_this_dayAt h_this_secondAt h_this_spans h_this_kept h_this_text h_this_row h_this_read h_this_many h_this_first h_this_lengths h_this_page i_this j_this, (h_this_dayAt, .inl (cI, 8, .inl f_this_dayAt)), (h_this_row, .inl (cJ, 16, .inr (.inl f_this_row)))] H → va_D A [cl_X10 h_this h_this_dayAt h_this_secondAt h_this_spans h_this_kept h_this_text h_this_row h_this_read h_this_many h_this_first h_this_lengths h_this_page i_this j_this, (h_this_dayAt, .inl (cI, 8, .inl f_this_dayAt)), (h_this_row, .inl (cJ, 16, .inr (.inl f_this_row)))] → va_S A s.heap H locs → W p l e (kR 4 97) s m args below meth c H locs 0 0 Q (F0 m 106 ls []) := by
        intro v3 v4 v6 i_this f_this_row ls H locs h hl hP hD hS
        unfold fX10_age_j106 at h
        refine lv_iload hx hb dX10_age_106 (lv_at hl 3 rfl) ?_
        refine lv_if_ne (tgt := 115) hx hb dX10_age_108 (by decide) (fun c1 => ?_) (fun c1 => ?_)
        · have h := ite_f c1 h
          refine lv_iconst (v := (0 : Int32)) hx hb dX10_age_115 (by decide) ?_
          refine lv_istore (lv' := [(7, .int (0 : Int32)), (0, .ref h_this), (3, .int v3), (4, .int v4), (6, .int v6)]) hx hb dX10_age_116 hl (by decide) rfl (fun ls hl => ?_)
          refine lv_iload hx hb dX10_age_118 (lv_at hl 0 rfl) ?_
          refine lv_if_ne (tgt := 71) hx hb dX10_age_120 (by decide) (fun c2 => ?_) (fun c2 => ?_)
          · have h := ite_f c2 h
            exact ih_71 _ _ _ _ _ _ _ _ _ h (lv_sub hl [1, 2, 3, 4, 0] rfl) hP hD hS
          have h := ite_t c2 h
          obtain ⟨z3, ez3⟩ : ∃ y : Int32, y = (v6 + (-1 : Int32)) := ⟨_, rfl⟩
          have h := nm_at ez3 h
          refine lv_iinc (v := z3) (lv' := [(6, .int z3), (7, .int (0 : Int32)), (0, .ref h_this), (3, .int v3), (4, .int v4)]) hx hb dX10_age_123 hl (k := 4) rfl (by rw [ez3]; rfl) (by decide) rfl (fun ls hl => ?_)
          refine lv_goto (tgt := 71) hx hb dX10_age_126 (by decide) ?_
          exact ih_71 _ _ _ _ _ _ _ _ _ h (lv_sub hl [2, 3, 4, 0, 1] rfl) hP hD hS
        have h := ite_t c1 h
        refine lv_iconst (v := (1 : Int32)) hx hb dX10_age_111 (by decide) ?_
        refine lv_goto (tgt := 116) hx hb dX10_age_112 (by decide) ?_
        refine lv_istore (lv' := [(7, .int (1 : Int32)), (0, .ref h_this), (3, .int v3), (4, .int v4), (6, .int v6)]) hx hb dX10_age_116 hl (by decide) rfl (fun ls hl => ?_)
        refine lv_iload hx hb dX10_age_118 (lv_at hl 0 rfl) ?_
        refine lv_if_ne (tgt := 71) hx hb dX10_age_120 (by decide) (fun c4 => ?_) (fun c4 => ?_)
        · have h := ite_f c4 h
          exact ih_71 _ _ _ _ _ _ _ _ _ h (lv_sub hl [1, 2, 3, 4, 0] rfl) hP hD hS
        have h := ite_t c4 h
        obtain ⟨z5, ez5⟩ : ∃ y : Int32, y = (v6 + (-1 : Int32)) := ⟨_, rfl⟩
        have h := nm_at ez5 h
        refine lv_iinc (v := z5) (lv' := [(6, .int z5), (7, .int (1 : Int32)), (0, .ref h_this), (3, .int v3), (4, .int v4)]) hx hb dX10_age_123 hl (k := 4) rfl (by rw [ez5]; rfl) (by decide) rfl (fun ls hl => ?_)
        refine lv_goto (tgt := 71) hx hb dX10_age_126 (by decide) ?_
        exact ih_71 _ _ _ _ _ _ _ _ _ h (lv_sub hl [2, 3, 4, 0, 1] rfl) hP hD hS
      intro v3 v4 v6 v7 i_this f_this_row ls H locs h hl hP hD hS
      rw [fX10_age_l71_s] at h
      refine lv_iload hx hb dX10_age_71 (lv_at hl 4 rfl) ?_
      refine lv_if_ne (tgt := 129) hx hb dX10_age_73 (by decide) (fun c6 => ?_) (fun c6 => ?_)
      · have h := ite_f c6 h
        refine lv_aload_n hx hb dX10_age_129 rfl (lv_at hl 0 rfl) ?_
        refine va_get (D := (dC, dI)) (ci := 9) (v := .int (i_this 13)) (C := RX10) (T := TX10) (N := 29) hx hb hts inX10 hown hK hP 0 rfl rfl 13 (by decide) (hts _ (kq q_999 rfl)) (fun _ h9 => h9) rfl dX10_age_130 ?_
        refine lv_topi (fun z7 ez7 => ?_)
        have h := nm_at ez7 h
        refine lv_istore (lv' := [(8, .int z7), (0, .ref h_this), (3, .int v3), (4, .int v4), (6, .int v6), (7, .int v7)]) hx hb dX10_age_133 hl (by decide) rfl (fun ls hl => ?_)
        refine lv_aload_n hx hb dX10_age_135 rfl (lv_at hl 1 rfl) ?_
        refine lv_iload_n hx hb dX10_age_136 rfl (lv_at hl 2 rfl) ?_
        refine lv_iconst (v := (0 : Int32)) hx hb dX10_age_137 (by decide) ?_
        obtain ⟨i_this_8, hc9, h⟩ := bd1_at h
        refine kjV (kV (own := "DateSpansModel") (C := "DateSpansModel") (b := h_this) (As := [.int v3, .int (0 : Int32)]) (rest := []) ⟨hx, hb, hml, hown, hts⟩ (kX10_stands l dC dI cI cJ cB h_this h_this_dayAt h_this_secondAt h_this_spans h_this_kept h_this_text h_this_row h_this_read h_this_many h_this_first h_this_lengths h_this_page N v3 (0 : Int32) i_this j_this i_this_8 hc9 _) (kgV (kq q_1136 rfl) (kq q_1138 rfl) (kq q_24 rfl) (kq q_66 rfl) (kq q_1139 rfl)) yd_X10_stands ⟨Nat.le_of_ble_eq_true rfl, Nat.le_of_ble_eq_true rfl⟩ hN hK hP hD [0] rfl rfl (ci := 9) rfl rfl rfl rfl rfl hl.1 rfl (lv_room (Nat.le_of_ble_eq_true rfl)) dX10_age_138) hP hD hS hA [0] rfl rfl (fun H locs hP hD hS => ?_)
        have hP : va_P (dC, dI) vwCl [cl_X10 h_this h_this_dayAt h_this_secondAt h_this_spans h_this_kept h_this_text h_this_row h_this_read h_this_many h_this_first h_this_lengths h_this_page i_this_8 j_this, (h_this_dayAt, .inl (cI, 8, .inl f_this_dayAt)), (h_this_row, .inl (cJ, 16, .inr (.inl f_this_row)))] H := hP
        have hD : va_D A [cl_X10 h_this h_this_dayAt h_this_secondAt h_this_spans h_this_kept h_this_text h_this_row h_this_read h_this_many h_this_first h_this_lengths h_this_page i_this_8 j_this, (h_this_dayAt, .inl (cI, 8, .inl f_this_dayAt)), (h_this_row, .inl (cJ, 16, .inr (.inl f_this_row)))] := hD
        refine lv_aload_n hx hb dX10_age_141 rfl (lv_at hl 1 rfl) ?_
        refine lv_ldc2 (v := (12 : Int64)) hx hb hown (hts _ (kq q_1266 rfl)) dX10_age_142 ?_
        refine lv_iload hx hb dX10_age_145 (lv_at hl 4 rfl) ?_
        refine lv_iconst (v := (1 : Int32)) hx hb dX10_age_147 (by decide) ?_
        refine lv_iadd hx hb dX10_age_148 ?_
        refine lv_i2l hx hb dX10_age_149 rfl ?_
        refine lv_lmul hx hb dX10_age_150 ?_
        refine lv_iconst (v := (0 : Int32)) hx hb dX10_age_151 (by decide) ?_
        obtain ⟨r10, i_this_11, hc12, h⟩ := bd2_at h
        refine kjI (kV (own := "DateSpansModel") (C := "DateSpansModel") (b := h_this) (As := [.long ((12 : Int64) * (v6 + (1 : Int32)).toInt64), .int (0 : Int32)]) (rest := []) ⟨hx, hb, hml, hown, hts⟩ (kX10_addsMonths l dC dI cI cJ cB h_this h_this_dayAt h_this_secondAt h_this_spans h_this_kept h_this_text h_this_row h_this_read h_this_many h_this_first h_this_lengths h_this_page N ((12 : Int64) * (v6 + (1 : Int32)).toInt64) (0 : Int32) i_this_8 j_this r10 i_this_11 hc12 _) (kgV (kq q_1294 rfl) (kq q_1296 rfl) (kq q_35 rfl) (kq q_66 rfl) (kq q_1297 rfl)) yd_X10_addsMonths ⟨Nat.le_of_ble_eq_true rfl, Nat.le_of_ble_eq_true rfl⟩ hN hK hP hD [0] rfl rfl (ci := 9) rfl rfl rfl rfl rfl hl.1 rfl (lv_room (Nat.le_of_ble_eq_true rfl)) dX10_age_152) hP hD hS hA [0] rfl rfl (fun H locs hP hD hS => ?_)
        have hP : va_P (dC, dI) vwCl [cl_X10 h_this h_this_dayAt h_this_secondAt h_this_spans h_this_kept h_this_text h_this_row h_this_read h_this_many h_this_first h_this_lengths h_this_page i_this_11 j_this, (h_this_dayAt, .inl (cI, 8, .inl f_this_dayAt)), (h_this_row, .inl (cJ, 16, .inr (.inl f_this_row)))] H := hP
        have hD : va_D A [cl_X10 h_this h_this_dayAt h_this_secondAt h_this_spans h_this_kept h_this_text h_this_row h_this_read h_this_many h_this_first h_this_lengths h_this_page i_this_11 j_this, (h_this_dayAt, .inl (cI, 8, .inl f_this_dayAt)), (h_this_row, .inl (cJ, 16, .inr (.inl f_this_row)))] := hD
        refine lv_istore (lv' := [(9, .int r10), (8, .int z7), (0, .ref h_this), (3, .int v3), (4, .int v4), (6, .int v6), (7, .int v7)]) hx hb dX10_age_155 hl (by decide) rfl (fun ls hl => ?_)
        refine lv_aload_n hx hb dX10_age_157 rfl (lv_at hl 2 rfl) ?_
        refine lv_iconst (v := (0 : Int32)) hx hb dX10_age_158 (by decide) ?_
        refine va_put (D := (dC, dI)) (ci := 9) (v := .int (0 : Int32)) (ty := .int) (C := RX10) (T := TX10) (N := 29) hx hb hts inX10 tyX10 tyX10_ok nmX10 hown hK hP hD hS 0 rfl rfl 8 (by decide) (hts _ (kq q_994 rfl)) (fun _ h9 => h9) rfl (by decide +kernel) rfl rfl (Nat.le_of_ble_eq_true rfl) dX10_age_159 (fun H locs hP hD hS => ?_)
        have hP : va_P (dC, dI) vwCl [(h_this, .inr (9, [.ref h_this_dayAt, .ref h_this_secondAt, .ref h_this_spans, .ref h_this_kept, .int (i_this_11 4), .ref h_this_text, .int (i_this_11 6), .ref h_this_row, .int (0 : Int32), .int (i_this_11 9), .int (i_this_11 10), .int (i_this_11 11), .int (i_this_11 12), .int (i_this_11 13), .int (i_this_11 14), .int (i_this_11 15), .int (i_this_11 16), .int (i_this_11 17), .int (i_this_11 18), .ref h_this_read, .long (j_this 20), .ref h_this_many, .ref h_this_first, .ref h_this_lengths, .int (i_this_11 24), .long (j_this 25), .long (j_this 26), .ref h_this_page, .int (i_this_11 28)])), (h_this_dayAt, .inl (cI, 8, .inl f_this_dayAt)), (h_this_row, .inl (cJ, 16, .inr (.inl f_this_row)))] H := hP
        have hD : va_D A [(h_this, .inr (9, [.ref h_this_dayAt, .ref h_this_secondAt, .ref h_this_spans, .ref h_this_kept, .int (i_this_11 4), .ref h_this_text, .int (i_this_11 6), .ref h_this_row, .int (0 : Int32), .int (i_this_11 9), .int (i_this_11 10), .int (i_this_11 11), .int (i_this_11 12), .int (i_this_11 13), .int (i_this_11 14), .int (i_this_11 15), .int (i_this_11 16), .int (i_this_11 17), .int (i_this_11 18), .ref h_this_read, .long (j_this 20), .ref h_this_many, .ref h_this_first, .ref h_this_lengths, .int (i_this_11 24), .long (j_this 25), .long (j_this 26), .ref h_this_page, .int (i_this_11 28)])), (h_this_dayAt, .inl (cI, 8, .inl f_this_dayAt)), (h_this_row, .inl (cJ, 16, .inr (.inl f_this_row)))] := hD
        refine lv_aload_n hx hb dX10_age_162 rfl (lv_at hl 2 rfl) ?_
        refine lv_iload hx hb dX10_age_163 (lv_at hl 4 rfl) ?_
        refine lv_iload hx hb dX10_age_165 (lv_at hl 1 rfl) ?_
        refine lv_isub hx hb dX10_age_167 ?_
        refine lv_i2l hx hb dX10_age_168 rfl ?_
        have hP : va_P (dC, dI) vwCl [cl_X10 h_this h_this_dayAt h_this_secondAt h_this_spans h_this_kept h_this_text h_this_row h_this_read h_this_many h_this_first h_this_lengths h_this_page (upd i_this_11 8 (0 : Int32)) j_this, (h_this_dayAt, .inl (cI, 8, .inl f_this_dayAt)), (h_this_row, .inl (cJ, 16, .inr (.inl f_this_row)))] H := hP
        have hD : va_D A [cl_X10 h_this h_this_dayAt h_this_secondAt h_this_spans h_this_kept h_this_text h_this_row h_this_read h_this_many h_this_first h_this_lengths h_this_page (upd i_this_11 8 (0 : Int32)) j_this, (h_this_dayAt, .inl (cI, 8, .inl f_this_dayAt)), (h_this_row, .inl (cJ, 16, .inr (.inl f_this_row)))] := hD
        obtain ⟨i_this_13, f_this_row_14, hc15, h⟩ := bd2_at h
        refine kjV (kV (own := "DateSpansModel") (C := "DateSpansModel") (b := h_this) (As := [.long ((v4 - z7).toInt64)]) (rest := []) ⟨hx, hb, hml, hown, hts⟩ (kX10_tell l dC dI cI cJ cB h_this h_this_dayAt h_this_secondAt h_this_spans h_this_kept h_this_text h_this_row h_this_read h_this_many h_this_first h_this_lengths h_this_page N ((v4 - z7).toInt64) (upd i_this_11 8 (0 : Int32)) j_this f_this_row i_this_13 f_this_row_14 hc15 _) (kgV (kq q_1221 rfl) (kq q_1223 rfl) (kq q_29 rfl) (kq q_66 rfl) (kq q_1224 rfl)) yd_X10_tell ⟨Nat.le_of_ble_eq_true rfl, Nat.le_of_ble_eq_true rfl⟩ hN hK hP hD [0, 2] rfl rfl (ci := 9) rfl rfl rfl rfl rfl hl.1 rfl (lv_room (Nat.le_of_ble_eq_true rfl)) dX10_age_169) hP hD hS hA [0, 2] rfl rfl (fun H locs hP hD hS => ?_)
        have hP : va_P (dC, dI) vwCl [cl_X10 h_this h_this_dayAt h_this_secondAt h_this_spans h_this_kept h_this_text h_this_row h_this_read h_this_many h_this_first h_this_lengths h_this_page i_this_13 j_this, (h_this_dayAt, .inl (cI, 8, .inl f_this_dayAt)), (h_this_row, .inl (cJ, 16, .inr (.inl f_this_row_14)))] H := hP
        have hD : va_D A [cl_X10 h_this h_this_dayAt h_this_secondAt h_this_spans h_this_kept h_this_text h_this_row h_this_read h_this_many h_this_first h_this_lengths h_this_page i_this_13 j_this, (h_this_dayAt, .inl (cI, 8, .inl f_this_dayAt)), (h_this_row, .inl (cJ, 16, .inr (.inl f_this_row_14)))] := hD
        refine lv_aload_n hx hb dX10_age_172 rfl (lv_at hl 2 rfl) ?_
        refine lv_iload hx hb dX10_age_173 (lv_at hl 0 rfl) ?_
        refine lv_if_eq (tgt := 189) hx hb dX10_age_175 (by decide) (fun c16 => ?_) (fun c16 => ?_)
        · have h := ite_t c16 h
          refine lv_ldc2 (v := (-2 : Int64)) hx hb hown (hts _ (kq q_1368 rfl)) dX10_age_189 ?_
          obtain ⟨i_this_17, f_this_row_18, hc19, h⟩ := bd2_at h
          refine kjV (kV (own := "DateSpansModel") (C := "DateSpansModel") (b := h_this) (As := [.long (-2 : Int64)]) (rest := []) ⟨hx, hb, hml, hown, hts⟩ (kX10_tell l dC dI cI cJ cB h_this h_this_dayAt h_this_secondAt h_this_spans h_this_kept h_this_text h_this_row h_this_read h_this_many h_this_first h_this_lengths h_this_page N (-2 : Int64) i_this_13 j_this f_this_row_14 i_this_17 f_this_row_18 hc19 _) (kgV (kq q_1221 rfl) (kq q_1223 rfl) (kq q_29 rfl) (kq q_66 rfl) (kq q_1224 rfl)) yd_X10_tell ⟨Nat.le_of_ble_eq_true rfl, Nat.le_of_ble_eq_true rfl⟩ hN hK hP hD [0, 2] rfl rfl (ci := 9) rfl rfl rfl rfl rfl hl.1 rfl (lv_room (Nat.le_of_ble_eq_true rfl)) dX10_age_192) hP hD hS hA [0, 2] rfl rfl (fun H locs hP hD hS => ?_)
          have hP : va_P (dC, dI) vwCl [cl_X10 h_this h_this_dayAt h_this_secondAt h_this_spans h_this_kept h_this_text h_this_row h_this_read h_this_many h_this_first h_this_lengths h_this_page i_this_17 j_this, (h_this_dayAt, .inl (cI, 8, .inl f_this_dayAt)), (h_this_row, .inl (cJ, 16, .inr (.inl f_this_row_18)))] H := hP
          have hD : va_D A [cl_X10 h_this h_this_dayAt h_this_secondAt h_this_spans h_this_kept h_this_text h_this_row h_this_read h_this_many h_this_first h_this_lengths h_this_page i_this_17 j_this, (h_this_dayAt, .inl (cI, 8, .inl f_this_dayAt)), (h_this_row, .inl (cJ, 16, .inr (.inl f_this_row_18)))] := hD
          refine lv_iload hx hb dX10_age_195 (lv_at hl 5 rfl) ?_
          obtain ⟨rfl, rfl, rfl⟩ := pj3 h
          exact hEnd _ _ _ _ hP hS dX10_age_197 rfl
        have h := ite_f c16 h
        refine lv_aload_n hx hb dX10_age_178 rfl (lv_at hl 2 rfl) ?_
        refine va_get (D := (dC, dI)) (ci := 9) (v := .int (i_this_13 13)) (C := RX10) (T := TX10) (N := 29) hx hb hts inX10 hown hK hP 0 rfl rfl 13 (by decide) (hts _ (kq q_999 rfl)) (fun _ h9 => h9) rfl dX10_age_179 ?_
        refine lv_iload hx hb dX10_age_182 (lv_at hl 4 rfl) ?_
        refine lv_isub hx hb dX10_age_184 ?_
        refine lv_i2l hx hb dX10_age_185 rfl ?_
        refine lv_goto (tgt := 192) hx hb dX10_age_186 (by decide) ?_
        obtain ⟨i_this_20, f_this_row_21, hc22, h⟩ := bd2_at h
        refine kjV (kV (own := "DateSpansModel") (C := "DateSpansModel") (b := h_this) (As := [.long (((i_this_13 13) - v4).toInt64)]) (rest := []) ⟨hx, hb, hml, hown, hts⟩ (kX10_tell l dC dI cI cJ cB h_this h_this_dayAt h_this_secondAt h_this_spans h_this_kept h_this_text h_this_row h_this_read h_this_many h_this_first h_this_lengths h_this_page N (((i_this_13 13) - v4).toInt64) i_this_13 j_this f_this_row_14 i_this_20 f_this_row_21 hc22 _) (kgV (kq q_1221 rfl) (kq q_1223 rfl) (kq q_29 rfl) (kq q_66 rfl) (kq q_1224 rfl)) yd_X10_tell ⟨Nat.le_of_ble_eq_true rfl, Nat.le_of_ble_eq_true rfl⟩ hN hK hP hD [0, 2] rfl rfl (ci := 9) rfl rfl rfl rfl rfl hl.1 rfl (lv_room (Nat.le_of_ble_eq_true rfl)) dX10_age_192) hP hD hS hA [0, 2] rfl rfl (fun H locs hP hD hS => ?_)
        have hP : va_P (dC, dI) vwCl [cl_X10 h_this h_this_dayAt h_this_secondAt h_this_spans h_this_kept h_this_text h_this_row h_this_read h_this_many h_this_first h_this_lengths h_this_page i_this_20 j_this, (h_this_dayAt, .inl (cI, 8, .inl f_this_dayAt)), (h_this_row, .inl (cJ, 16, .inr (.inl f_this_row_21)))] H := hP
        have hD : va_D A [cl_X10 h_this h_this_dayAt h_this_secondAt h_this_spans h_this_kept h_this_text h_this_row h_this_read h_this_many h_this_first h_this_lengths h_this_page i_this_20 j_this, (h_this_dayAt, .inl (cI, 8, .inl f_this_dayAt)), (h_this_row, .inl (cJ, 16, .inr (.inl f_this_row_21)))] := hD
        refine lv_iload hx hb dX10_age_195 (lv_at hl 5 rfl) ?_
        obtain ⟨rfl, rfl, rfl⟩ := pj3 h
        exact hEnd _ _ _ _ hP hS dX10_age_197 rfl
      have h := ite_t c6 h
      refine lv_aload_n hx hb dX10_age_76 rfl (lv_at hl 0 rfl) ?_
      refine lv_iload_n hx hb dX10_age_77 rfl (lv_at hl 1 rfl) ?_
      refine lv_iconst (v := (0 : Int32)) hx hb dX10_age_78 (by decide) ?_
      obtain ⟨i_this_23, hc24, h⟩ := bd1_at h
      refine kjV (kV (own := "DateSpansModel") (C := "DateSpansModel") (b := h_this) (As := [.int v3, .int (0 : Int32)]) (rest := []) ⟨hx, hb, hml, hown, hts⟩ (kX10_stands l dC dI cI cJ cB h_this h_this_dayAt h_this_secondAt h_this_spans h_this_kept h_this_text h_this_row h_this_read h_this_many h_this_first h_this_lengths h_this_page N v3 (0 : Int32) i_this j_this i_this_23 hc24 _) (kgV (kq q_1136 rfl) (kq q_1138 rfl) (kq q_24 rfl) (kq q_66 rfl) (kq q_1139 rfl)) yd_X10_stands ⟨Nat.le_of_ble_eq_true rfl, Nat.le_of_ble_eq_true rfl⟩ hN hK hP hD [0] rfl rfl (ci := 9) rfl rfl rfl rfl rfl hl.1 rfl (lv_room (Nat.le_of_ble_eq_true rfl)) dX10_age_79) hP hD hS hA [0] rfl rfl (fun H locs hP hD hS => ?_)
      have hP : va_P (dC, dI) vwCl [cl_X10 h_this h_this_dayAt h_this_secondAt h_this_spans h_this_kept h_this_text h_this_row h_this_read h_this_many h_this_first h_this_lengths h_this_page i_this_23 j_this, (h_this_dayAt, .inl (cI, 8, .inl f_this_dayAt)), (h_this_row, .inl (cJ, 16, .inr (.inl f_this_row)))] H := hP
      have hD : va_D A [cl_X10 h_this h_this_dayAt h_this_secondAt h_this_spans h_this_kept h_this_text h_this_row h_this_read h_this_many h_this_first h_this_lengths h_this_page i_this_23 j_this, (h_this_dayAt, .inl (cI, 8, .inl f_this_dayAt)), (h_this_row, .inl (cJ, 16, .inr (.inl f_this_row)))] := hD
      refine lv_aload_n hx hb dX10_age_82 rfl (lv_at hl 0 rfl) ?_
      refine lv_ldc2 (v := (12 : Int64)) hx hb hown (hts _ (kq q_1266 rfl)) dX10_age_83 ?_
      refine lv_iload hx hb dX10_age_86 (lv_at hl 3 rfl) ?_
      refine lv_i2l hx hb dX10_age_88 rfl ?_
      refine lv_lmul hx hb dX10_age_89 ?_
      refine lv_iconst (v := (0 : Int32)) hx hb dX10_age_90 (by decide) ?_
      obtain ⟨r25, i_this_26, hc27, h⟩ := bd2_at h
      refine kjI (kV (own := "DateSpansModel") (C := "DateSpansModel") (b := h_this) (As := [.long ((12 : Int64) * v6.toInt64), .int (0 : Int32)]) (rest := []) ⟨hx, hb, hml, hown, hts⟩ (kX10_addsMonths l dC dI cI cJ cB h_this h_this_dayAt h_this_secondAt h_this_spans h_this_kept h_this_text h_this_row h_this_read h_this_many h_this_first h_this_lengths h_this_page N ((12 : Int64) * v6.toInt64) (0 : Int32) i_this_23 j_this r25 i_this_26 hc27 _) (kgV (kq q_1294 rfl) (kq q_1296 rfl) (kq q_35 rfl) (kq q_66 rfl) (kq q_1297 rfl)) yd_X10_addsMonths ⟨Nat.le_of_ble_eq_true rfl, Nat.le_of_ble_eq_true rfl⟩ hN hK hP hD [0] rfl rfl (ci := 9) rfl rfl rfl rfl rfl hl.1 rfl (lv_room (Nat.le_of_ble_eq_true rfl)) dX10_age_91) hP hD hS hA [0] rfl rfl (fun H locs hP hD hS => ?_)
      have hP : va_P (dC, dI) vwCl [cl_X10 h_this h_this_dayAt h_this_secondAt h_this_spans h_this_kept h_this_text h_this_row h_this_read h_this_many h_this_first h_this_lengths h_this_page i_this_26 j_this, (h_this_dayAt, .inl (cI, 8, .inl f_this_dayAt)), (h_this_row, .inl (cJ, 16, .inr (.inl f_this_row)))] H := hP
      have hD : va_D A [cl_X10 h_this h_this_dayAt h_this_secondAt h_this_spans h_this_kept h_this_text h_this_row h_this_read h_this_many h_this_first h_this_lengths h_this_page i_this_26 j_this, (h_this_dayAt, .inl (cI, 8, .inl f_this_dayAt)), (h_this_row, .inl (cJ, 16, .inr (.inl f_this_row)))] := hD
      refine lv_if_eq (tgt := 106) hx hb dX10_age_94 (by decide) (fun c28 => ?_) (fun c28 => ?_)
      · have h := ite_t c28 h
        exact JN_106 _ _ _ _ _ _ _ _ h (lv_sub hl [0, 1, 2, 3] rfl) hP hD hS
      have h := ite_f c28 h
      refine lv_aload_n hx hb dX10_age_97 rfl (lv_at hl 0 rfl) ?_
      refine va_get (D := (dC, dI)) (ci := 9) (v := .int (i_this_26 13)) (C := RX10) (T := TX10) (N := 29) hx hb hts inX10 hown hK hP 0 rfl rfl 13 (by decide) (hts _ (kq q_999 rfl)) (fun _ h9 => h9) rfl dX10_age_98 ?_
      refine lv_iload hx hb dX10_age_101 (lv_at hl 2 rfl) ?_
      refine lv_icmp_le (tgt := 111) hx hb dX10_age_103 (by decide) (fun c29 => ?_) (fun c29 => ?_)
      · have h := ite_t c29 h
        refine lv_iconst (v := (1 : Int32)) hx hb dX10_age_111 (by decide) ?_
        refine lv_goto (tgt := 116) hx hb dX10_age_112 (by decide) ?_
        refine lv_istore (lv' := [(7, .int (1 : Int32)), (0, .ref h_this), (3, .int v3), (4, .int v4), (6, .int v6)]) hx hb dX10_age_116 hl (by decide) rfl (fun ls hl => ?_)
        refine lv_iload hx hb dX10_age_118 (lv_at hl 0 rfl) ?_
        refine lv_if_ne (tgt := 71) hx hb dX10_age_120 (by decide) (fun c30 => ?_) (fun c30 => ?_)
        · have h := ite_f c30 h
          exact ih_71 _ _ _ _ _ _ _ _ _ h (lv_sub hl [1, 2, 3, 4, 0] rfl) hP hD hS
        have h := ite_t c30 h
        obtain ⟨z31, ez31⟩ : ∃ y : Int32, y = (v6 + (-1 : Int32)) := ⟨_, rfl⟩
        have h := nm_at ez31 h
        refine lv_iinc (v := z31) (lv' := [(6, .int z31), (7, .int (1 : Int32)), (0, .ref h_this), (3, .int v3), (4, .int v4)]) hx hb dX10_age_123 hl (k := 4) rfl (by rw [ez31]; rfl) (by decide) rfl (fun ls hl => ?_)
        refine lv_goto (tgt := 71) hx hb dX10_age_126 (by decide) ?_
        exact ih_71 _ _ _ _ _ _ _ _ _ h (lv_sub hl [2, 3, 4, 0, 1] rfl) hP hD hS
      have h := ite_f c29 h
      exact JN_106 _ _ _ _ _ _ _ _ h (lv_sub hl [0, 1, 2, 3] rfl) hP hD hS
  have h := hf
  unfold fX10_age at h
  refine lv_aload_n hx hb dX10_age_0 rfl (lv_at hl 0 rfl) ?_
  refine lv_iconst (v := (0 : Int32)) hx hb dX10_age_1 (by decide) ?_
  refine va_put (D := (dC, dI)) (ci := 9) (v := .int (0 : Int32)) (ty := .int) (C := RX10) (T := TX10) (N := 29) hx hb hts inX10 tyX10 tyX10_ok nmX10 hown hK hP hD hS 0 rfl rfl 9 (by decide) (hts _ (kq q_995 rfl)) (fun _ h9 => h9) rfl (by decide +kernel) rfl rfl (Nat.le_of_ble_eq_true rfl) dX10_age_2 (fun H locs hP hD hS => ?_)
  have hP : va_P (dC, dI) vwCl [(h_this, .inr (9, [.ref h_this_dayAt, .ref h_this_secondAt, .ref h_this_spans, .ref h_this_kept, .int (i_this 4), .ref h_this_text, .int (i_this 6), .ref h_this_row, .int (i_this 8), .int (0 : Int32), .int (i_this 10), .int (i_this 11), .int (i_this 12), .int (i_this 13), .int (i_this 14), .int (i_this 15), .int (i_this 16), .int (i_this 17), .int (i_this 18), .ref h_this_read, .long (j_this 20), .ref h_this_many, .ref h_this_first, .ref h_this_lengths, .int (i_this 24), .long (j_this 25), .long (j_this 26), .ref h_this_page, .int (i_this 28)])), (h_this_dayAt, .inl (cI, 8, .inl f_this_dayAt)), (h_this_row, .inl (cJ, 16, .inr (.inl f_this_row)))] H := hP
  have hD : va_D A [(h_this, .inr (9, [.ref h_this_dayAt, .ref h_this_secondAt, .ref h_this_spans, .ref h_this_kept, .int (i_this 4), .ref h_this_text, .int (i_this 6), .ref h_this_row, .int (i_this 8), .int (0 : Int32), .int (i_this 10), .int (i_this 11), .int (i_this 12), .int (i_this 13), .int (i_this 14), .int (i_this 15), .int (i_this 16), .int (i_this 17), .int (i_this 18), .ref h_this_read, .long (j_this 20), .ref h_this_many, .ref h_this_first, .ref h_this_lengths, .int (i_this 24), .long (j_this 25), .long (j_this 26), .ref h_this_page, .int (i_this 28)])), (h_this_dayAt, .inl (cI, 8, .inl f_this_dayAt)), (h_this_row, .inl (cJ, 16, .inr (.inl f_this_row)))] := hD
  refine lv_iload_n hx hb dX10_age_5 rfl (lv_at hl 1 rfl) ?_
  have hP : va_P (dC, dI) vwCl [cl_X10 h_this h_this_dayAt h_this_secondAt h_this_spans h_this_kept h_this_text h_this_row h_this_read h_this_many h_this_first h_this_lengths h_this_page (upd i_this 9 (0 : Int32)) j_this, (h_this_dayAt, .inl (cI, 8, .inl f_this_dayAt)), (h_this_row, .inl (cJ, 16, .inr (.inl f_this_row)))] H := hP
  have hD : va_D A [cl_X10 h_this h_this_dayAt h_this_secondAt h_this_spans h_this_kept h_this_text h_this_row h_this_read h_this_many h_this_first h_this_lengths h_this_page (upd i_this 9 (0 : Int32)) j_this, (h_this_dayAt, .inl (cI, 8, .inl f_this_dayAt)), (h_this_row, .inl (cJ, 16, .inr (.inl f_this_row)))] := hD
  obtain ⟨r32, hc33, h⟩ := bd1_at h
  refine kjSI (kS0 (own := "DateSpansModel") (As := [.int p1]) (rest := []) ⟨hx, hb, hml, hown, hts⟩ (kX10_isSlot l N p1 r32 hc33) (kgS (kq q_1123 rfl) (kq q_1124 rfl) (kq q_66 rfl) (kq q_1125 rfl)) yd_X10_isSlot ⟨Nat.le_of_ble_eq_true rfl, Nat.le_of_ble_eq_true rfl⟩ rfl rfl hl.1 rfl (lv_room (Nat.le_of_ble_eq_true rfl)) dX10_age_6) ?_
  refine lv_if_eq (tgt := 19) hx hb dX10_age_9 (by decide) (fun c34 => ?_) (fun c34 => ?_)
  · have h := ite_t c34 h
    refine lv_iconst (v := (-1 : Int32)) hx hb dX10_age_19 (by decide) ?_
    obtain ⟨rfl, rfl, rfl⟩ := pj3 h
    exact hEnd _ _ _ _ hP hS dX10_age_20 rfl
  have h := ite_f c34 h
  refine lv_iload_n hx hb dX10_age_12 rfl (lv_at hl 2 rfl) ?_
  obtain ⟨r35, hc36, h⟩ := bd1_at h
  refine kjSI (kS0 (own := "DateSpansModel") (As := [.int p2]) (rest := []) ⟨hx, hb, hml, hown, hts⟩ (kX10_isSlot l N p2 r35 hc36) (kgS (kq q_1123 rfl) (kq q_1124 rfl) (kq q_66 rfl) (kq q_1125 rfl)) yd_X10_isSlot ⟨Nat.le_of_ble_eq_true rfl, Nat.le_of_ble_eq_true rfl⟩ rfl rfl hl.1 rfl (lv_room (Nat.le_of_ble_eq_true rfl)) dX10_age_13) ?_
  refine lv_if_ne (tgt := 21) hx hb dX10_age_16 (by decide) (fun c37 => ?_) (fun c37 => ?_)
  · have h := ite_f c37 h
    refine lv_aload_n hx hb dX10_age_21 rfl (lv_at hl 0 rfl) ?_
    refine va_get (D := (dC, dI)) (ci := 9) (v := .ref h_this_dayAt) (C := RX10) (T := TX10) (N := 29) hx hb hts inX10 hown hK hP 0 rfl rfl 0 (by decide) (hts _ (kq q_986 rfl)) (fun _ h9 => h9) rfl dX10_age_22 ?_
    refine lv_iload_n hx hb dX10_age_25 rfl (lv_at hl 1 rfl) ?_
    obtain ⟨hi38, h⟩ := gi_at h
    refine va_iald hx hb hK hP 1 0 rfl rfl hi38 dX10_age_26 ?_
    refine lv_topi (fun z39 ez39 => ?_)
    have h := nm_at ez39 h
    refine lv_istore_n (lv' := [(3, .int z39), (0, .ref h_this), (1, .int p1), (2, .int p2)]) hx hb dX10_age_27 rfl hl (by decide) rfl (fun ls hl => ?_)
    refine lv_aload_n hx hb dX10_age_28 rfl (lv_at hl 1 rfl) ?_
    refine va_get (D := (dC, dI)) (ci := 9) (v := .ref h_this_dayAt) (C := RX10) (T := TX10) (N := 29) hx hb hts inX10 hown hK hP 0 rfl rfl 0 (by decide) (hts _ (kq q_986 rfl)) (fun _ h9 => h9) rfl dX10_age_29 ?_
    refine lv_iload_n hx hb dX10_age_32 rfl (lv_at hl 3 rfl) ?_
    obtain ⟨hi40, h⟩ := gi_at h
    refine va_iald hx hb hK hP 1 0 rfl rfl hi40 dX10_age_33 ?_
    refine lv_topi (fun z41 ez41 => ?_)
    have h := nm_at ez41 h
    refine lv_istore (lv' := [(4, .int z41), (3, .int z39), (0, .ref h_this), (1, .int p1), (2, .int p2)]) hx hb dX10_age_34 hl (by decide) rfl (fun ls hl => ?_)
    refine lv_aload_n hx hb dX10_age_36 rfl (lv_at hl 2 rfl) ?_
    refine lv_iload_n hx hb dX10_age_37 rfl (lv_at hl 1 rfl) ?_
    obtain ⟨i_this_42, hc43, h⟩ := bd1_at h
    refine kjV (kV (own := "DateSpansModel") (C := "DateSpansModel") (b := h_this) (As := [.int z39]) (rest := []) ⟨hx, hb, hml, hown, hts⟩ (kX10_dates l dC dI cI cJ cB h_this h_this_dayAt h_this_secondAt h_this_spans h_this_kept h_this_text h_this_row h_this_read h_this_many h_this_first h_this_lengths h_this_page N z39 (upd i_this 9 (0 : Int32)) j_this i_this_42 hc43 _) (kgV (kq q_1238 rfl) (kq q_1240 rfl) (kq q_30 rfl) (kq q_66 rfl) (kq q_1241 rfl)) yd_X10_dates ⟨Nat.le_of_ble_eq_true rfl, Nat.le_of_ble_eq_true rfl⟩ hN hK hP hD [0] rfl rfl (ci := 9) rfl rfl rfl rfl rfl hl.1 rfl (lv_room (Nat.le_of_ble_eq_true rfl)) dX10_age_38) hP hD hS hA [0] rfl rfl (fun H locs hP hD hS => ?_)
    have hP : va_P (dC, dI) vwCl [cl_X10 h_this h_this_dayAt h_this_secondAt h_this_spans h_this_kept h_this_text h_this_row h_this_read h_this_many h_this_first h_this_lengths h_this_page i_this_42 j_this, (h_this_dayAt, .inl (cI, 8, .inl f_this_dayAt)), (h_this_row, .inl (cJ, 16, .inr (.inl f_this_row)))] H := hP
    have hD : va_D A [cl_X10 h_this h_this_dayAt h_this_secondAt h_this_spans h_this_kept h_this_text h_this_row h_this_read h_this_many h_this_first h_this_lengths h_this_page i_this_42 j_this, (h_this_dayAt, .inl (cI, 8, .inl f_this_dayAt)), (h_this_row, .inl (cJ, 16, .inr (.inl f_this_row)))] := hD
    refine lv_aload_n hx hb dX10_age_41 rfl (lv_at hl 2 rfl) ?_
    refine va_get (D := (dC, dI)) (ci := 9) (v := .int (i_this_42 10)) (C := RX10) (T := TX10) (N := 29) hx hb hts inX10 hown hK hP 0 rfl rfl 10 (by decide) (hts _ (kq q_996 rfl)) (fun _ h9 => h9) rfl dX10_age_42 ?_
    refine lv_topi (fun z44 ez44 => ?_)
    have h := nm_at ez44 h
    refine lv_istore (lv' := [(5, .int z44), (4, .int z41), (3, .int z39), (0, .ref h_this), (1, .int p1), (2, .int p2)]) hx hb dX10_age_45 hl (by decide) rfl (fun ls hl => ?_)
    refine lv_aload_n hx hb dX10_age_47 rfl (lv_at hl 3 rfl) ?_
    refine lv_iload hx hb dX10_age_48 (lv_at hl 1 rfl) ?_
    obtain ⟨i_this_45, hc46, h⟩ := bd1_at h
    refine kjV (kV (own := "DateSpansModel") (C := "DateSpansModel") (b := h_this) (As := [.int z41]) (rest := []) ⟨hx, hb, hml, hown, hts⟩ (kX10_dates l dC dI cI cJ cB h_this h_this_dayAt h_this_secondAt h_this_spans h_this_kept h_this_text h_this_row h_this_read h_this_many h_this_first h_this_lengths h_this_page N z41 i_this_42 j_this i_this_45 hc46 _) (kgV (kq q_1238 rfl) (kq q_1240 rfl) (kq q_30 rfl) (kq q_66 rfl) (kq q_1241 rfl)) yd_X10_dates ⟨Nat.le_of_ble_eq_true rfl, Nat.le_of_ble_eq_true rfl⟩ hN hK hP hD [0] rfl rfl (ci := 9) rfl rfl rfl rfl rfl hl.1 rfl (lv_room (Nat.le_of_ble_eq_true rfl)) dX10_age_50) hP hD hS hA [0] rfl rfl (fun H locs hP hD hS => ?_)
    have hP : va_P (dC, dI) vwCl [cl_X10 h_this h_this_dayAt h_this_secondAt h_this_spans h_this_kept h_this_text h_this_row h_this_read h_this_many h_this_first h_this_lengths h_this_page i_this_45 j_this, (h_this_dayAt, .inl (cI, 8, .inl f_this_dayAt)), (h_this_row, .inl (cJ, 16, .inr (.inl f_this_row)))] H := hP
    have hD : va_D A [cl_X10 h_this h_this_dayAt h_this_secondAt h_this_spans h_this_kept h_this_text h_this_row h_this_read h_this_many h_this_first h_this_lengths h_this_page i_this_45 j_this, (h_this_dayAt, .inl (cI, 8, .inl f_this_dayAt)), (h_this_row, .inl (cJ, 16, .inr (.inl f_this_row)))] := hD
    refine lv_iconst (v := (0 : Int32)) hx hb dX10_age_53 (by decide) ?_
    refine lv_aload_n hx hb dX10_age_54 rfl (lv_at hl 3 rfl) ?_
    refine va_get (D := (dC, dI)) (ci := 9) (v := .int (i_this_45 10)) (C := RX10) (T := TX10) (N := 29) hx hb hts inX10 hown hK hP 0 rfl rfl 10 (by decide) (hts _ (kq q_996 rfl)) (fun _ h9 => h9) rfl dX10_age_55 ?_
    refine lv_iload hx hb dX10_age_58 (lv_at hl 0 rfl) ?_
    refine lv_isub hx hb dX10_age_60 ?_
    refine lv_iconst (v := (1 : Int32)) hx hb dX10_age_61 (by decide) ?_
    refine lv_iadd hx hb dX10_age_62 ?_
    refine va_mmax (rest := []) hx hb (hml.trans hl.1.symm) hown (hts _ (kq q_1299 rfl)) (hts _ (kq q_569 rfl)) (hts _ (kq q_72 rfl)) (hts _ (kq q_570 rfl)) (Nat.le_of_ble_eq_true rfl) (Nat.le_of_ble_eq_true rfl) (Nat.zero_le _) (Nat.zero_le _) dX10_age_63 ?_
    refine lv_topi (fun z47 ez47 => ?_)
    have h := nm_at ez47 h
    refine lv_istore (lv' := [(6, .int z47), (5, .int z44), (4, .int z41), (3, .int z39), (0, .ref h_this), (1, .int p1), (2, .int p2)]) hx hb dX10_age_66 hl (by decide) rfl (fun ls hl => ?_)
    refine lv_iconst (v := (0 : Int32)) hx hb dX10_age_68 (by decide) ?_
    refine lv_istore (lv' := [(7, .int (0 : Int32)), (6, .int z47), (5, .int z44), (4, .int z41), (3, .int z39), (0, .ref h_this), (1, .int p1), (2, .int p2)]) hx hb dX10_age_69 hl (by decide) rfl (fun ls hl => ?_)
    exact LP_71 N _ _ _ _ _ _ _ _ _ h (lv_sub hl [5, 4, 3, 1, 0] rfl) hP hD hS
  have h := ite_t c37 h
  refine lv_iconst (v := (-1 : Int32)) hx hb dX10_age_19 (by decide) ?_
  obtain ⟨rfl, rfl, rfl⟩ := pj3 h
  exact hEnd _ _ _ _ hP hS dX10_age_20 rfl
noncomputable def fX10_compare_j260 (N : Nat) (j_this : Nat → Int64) (f_this_spans : Nat → Int32) (t0 : Int32) (i_this : Nat → Int32) (f_this_row : Nat → Int64) (f_this_many : Nat → Int32) (f_this_first : Nat → Int32) : Option (Int32 × (Nat → Int32) × (Nat → Int64) × (Nat → Int32) × (Nat → Int32)) := (gi (1 : Int32) 3 (if (f_this_many (1 : Int32).toNatClampNeg) ≤ (0 : Int32) then (gi (2 : Int32) 3 (if (f_this_many (2 : Int32).toNatClampNeg) ≤ (0 : Int32) then (some (((t0 ||| (0 : Int32)) ||| (0 : Int32)), i_this, f_this_row, f_this_many, f_this_first)) else (some (((t0 ||| (0 : Int32)) ||| (4 : Int32)), i_this, f_this_row, f_this_many, f_this_first)))) else (gi (2 : Int32) 3 (if (f_this_many (2 : Int32).toNatClampNeg) ≤ (0 : Int32) then (some (((t0 ||| (2 : Int32)) ||| (0 : Int32)), i_this, f_this_row, f_this_many, f_this_first)) else (some (((t0 ||| (2 : Int32)) ||| (4 : Int32)), i_this, f_this_row, f_this_many, f_this_first))))))
noncomputable def fX10_compare_l222 (N : Nat) (j_this : Nat → Int64) (f_this_spans : Nat → Int32) (n : Nat) : Int32 → (Nat → Int32) → (Nat → Int64) → (Nat → Int32) → (Nat → Int32) → Option (Int32 × (Nat → Int32) × (Nat → Int64) × (Nat → Int32) × (Nat → Int32)) := Nat.rec (motive := fun _ => Int32 → (Nat → Int32) → (Nat → Int64) → (Nat → Int32) → (Nat → Int32) → Option (Int32 × (Nat → Int32) × (Nat → Int64) × (Nat → Int32) × (Nat → Int32))) (fun _ _ _ _ _ => none) (fun _ K_222 v4 i_this f_this_row f_this_many f_this_first => (if (3 : Int32) ≤ v4 then (gi (0 : Int32) 3 (if (f_this_many (0 : Int32).toNatClampNeg) ≤ (0 : Int32) then (fX10_compare_j260 N j_this f_this_spans (0 : Int32) i_this f_this_row f_this_many f_this_first) else (fX10_compare_j260 N j_this f_this_spans (1 : Int32) i_this f_this_row f_this_many f_this_first))) else (gi v4 3 (bd2 (fX10_tell N ((f_this_first v4.toNatClampNeg).toInt64) i_this j_this f_this_row) fun i_this_11 f_this_row_12 => (nm (v4 + (1 : Int32)) fun z14 => (K_222 z14 i_this_11 f_this_row_12 f_this_many f_this_first)))))) n
theorem fX10_compare_l222_s (N : Nat) (j_this : Nat → Int64) (f_this_spans : Nat → Int32) (n : Nat) (v4 : Int32) (i_this : Nat → Int32) (f_this_row : Nat → Int64) (f_this_many : Nat → Int32) (f_this_first : Nat → Int32) : fX10_compare_l222 N j_this f_this_spans (n + 1) v4 i_this f_this_row f_this_many f_this_first = (if (3 : Int32) ≤ v4 then (gi (0 : Int32) 3 (if (f_this_many (0 : Int32).toNatClampNeg) ≤ (0 : Int32) then (fX10_compare_j260 N j_this f_this_spans (0 : Int32) i_this f_this_row f_this_many f_this_first) else (fX10_compare_j260 N j_this f_this_spans (1 : Int32) i_this f_this_row f_this_many f_this_first))) else (gi v4 3 (bd2 (fX10_tell N ((f_this_first v4.toNatClampNeg).toInt64) i_this j_this f_this_row) fun i_this_11 f_this_row_12 => (nm (v4 + (1 : Int32)) fun z14 => ((fX10_compare_l222 N j_this f_this_spans n) z14 i_this_11 f_this_row_12 f_this_many f_this_first))))) := rfl
theorem fX10_compare_l222_0 (N : Nat) (j_this : Nat → Int64) (f_this_spans : Nat → Int32) (v4 : Int32) (i_this : Nat → Int32) (f_this_row : Nat → Int64) (f_this_many : Nat → Int32) (f_this_first : Nat → Int32) : fX10_compare_l222 N j_this f_this_spans 0 v4 i_this f_this_row f_this_many f_this_first = none := rfl
noncomputable def fX10_compare_l195 (N : Nat) (j_this : Nat → Int64) (f_this_spans : Nat → Int32) (n : Nat) : Int32 → (Nat → Int32) → (Nat → Int64) → (Nat → Int32) → (Nat → Int32) → Option (Int32 × (Nat → Int32) × (Nat → Int64) × (Nat → Int32) × (Nat → Int32)) := Nat.rec (motive := fun _ => Int32 → (Nat → Int32) → (Nat → Int64) → (Nat → Int32) → (Nat → Int32) → Option (Int32 × (Nat → Int32) × (Nat → Int64) × (Nat → Int32) × (Nat → Int32))) (fun _ _ _ _ _ => none) (fun _ K_195 v4 i_this f_this_row f_this_many f_this_first => (if (3 : Int32) ≤ v4 then (fX10_compare_l222 N j_this f_this_spans N (0 : Int32) i_this f_this_row f_this_many f_this_first) else (gi v4 3 (bd2 (fX10_tell N ((f_this_many v4.toNatClampNeg).toInt64) i_this j_this f_this_row) fun i_this_17 f_this_row_18 => (nm (v4 + (1 : Int32)) fun z20 => (K_195 z20 i_this_17 f_this_row_18 f_this_many f_this_first)))))) n
theorem fX10_compare_l195_s (N : Nat) (j_this : Nat → Int64) (f_this_spans : Nat → Int32) (n : Nat) (v4 : Int32) (i_this : Nat → Int32) (f_this_row : Nat → Int64) (f_this_many : Nat → Int32) (f_this_first : Nat → Int32) : fX10_compare_l195 N j_this f_this_spans (n + 1) v4 i_this f_this_row f_this_many f_this_first = (if (3 : Int32) ≤ v4 then (fX10_compare_l222 N j_this f_this_spans N (0 : Int32) i_this f_this_row f_this_many f_this_first) else (gi v4 3 (bd2 (fX10_tell N ((f_this_many v4.toNatClampNeg).toInt64) i_this j_this f_this_row) fun i_this_17 f_this_row_18 => (nm (v4 + (1 : Int32)) fun z20 => ((fX10_compare_l195 N j_this f_this_spans n) z20 i_this_17 f_this_row_18 f_this_many f_this_first))))) := rfl
theorem fX10_compare_l195_0 (N : Nat) (j_this : Nat → Int64) (f_this_spans : Nat → Int32) (v4 : Int32) (i_this : Nat → Int32) (f_this_row : Nat → Int64) (f_this_many : Nat → Int32) (f_this_first : Nat → Int32) : fX10_compare_l195 N j_this f_this_spans 0 v4 i_this f_this_row f_this_many f_this_first = none := rfl
noncomputable def fX10_compare_j149 (N : Nat) (j_this : Nat → Int64) (f_this_spans : Nat → Int32) (K_64 : Int32 → Int32 → Int32 → Int32 → (Nat → Int32) → (Nat → Int64) → (Nat → Int32) → (Nat → Int32) → Option (Int32 × (Nat → Int32) × (Nat → Int64) × (Nat → Int32) × (Nat → Int32))) (v1 : Int32) (v2 : Int32) (v3 : Int32) (v4 : Int32) (t0 : Int32) (i_this : Nat → Int32) (f_this_row : Nat → Int64) (f_this_many : Nat → Int32) (f_this_first : Nat → Int32) : Option (Int32 × (Nat → Int32) × (Nat → Int64) × (Nat → Int32) × (Nat → Int32)) := (gi t0 3 (if (f_this_many t0.toNatClampNeg) = (0 : Int32) then (gi t0 3 (gi t0 3 (gi t0 3 (nm (v4 + (1 : Int32)) fun z29 => (K_64 v1 v2 v3 z29 i_this f_this_row (upd f_this_many t0.toNatClampNeg ((f_this_many t0.toNatClampNeg) + (1 : Int32))) (upd f_this_first t0.toNatClampNeg v4)))))) else (gi t0 3 (gi t0 3 (nm (v4 + (1 : Int32)) fun z25 => (K_64 v1 v2 v3 z25 i_this f_this_row (upd f_this_many t0.toNatClampNeg ((f_this_many t0.toNatClampNeg) + (1 : Int32))) f_this_first))))))
noncomputable def fX10_compare_l64 (N : Nat) (j_this : Nat → Int64) (f_this_spans : Nat → Int32) (n : Nat) : Int32 → Int32 → Int32 → Int32 → (Nat → Int32) → (Nat → Int64) → (Nat → Int32) → (Nat → Int32) → Option (Int32 × (Nat → Int32) × (Nat → Int64) × (Nat → Int32) × (Nat → Int32)) := Nat.rec (motive := fun _ => Int32 → Int32 → Int32 → Int32 → (Nat → Int32) → (Nat → Int64) → (Nat → Int32) → (Nat → Int32) → Option (Int32 × (Nat → Int32) × (Nat → Int64) × (Nat → Int32) × (Nat → Int32))) (fun _ _ _ _ _ _ _ _ => none) (fun _ K_64 v1 v2 v3 v4 i_this f_this_row f_this_many f_this_first => (if (876216 : Int32) ≤ v4 then (fX10_compare_l195 N j_this f_this_spans N (0 : Int32) (upd i_this 8 (0 : Int32)) f_this_row f_this_many f_this_first) else (bd1 (fX10_stands N v4 (0 : Int32) i_this j_this) fun i_this_31 => (bd2 (fX10_addsSpan N v1 (1 : Int64) v3 (0 : Int32) i_this_31 j_this f_this_spans) fun r33 i_this_34 => (if r33 = (0 : Int32) then (nm (v4 + (1 : Int32)) fun z52 => (K_64 v1 v2 v3 z52 i_this_34 f_this_row f_this_many f_this_first)) else (bd1 (fX10_instant N i_this_34 j_this) fun r37 => (bd1 (fX10_stands N v4 (0 : Int32) i_this_34 j_this) fun i_this_39 => (bd2 (fX10_addsSpan N v2 (1 : Int64) v3 (0 : Int32) i_this_39 j_this f_this_spans) fun r41 i_this_42 => (if r41 = (0 : Int32) then (nm (v4 + (1 : Int32)) fun z51 => (K_64 v1 v2 v3 z51 i_this_42 f_this_row f_this_many f_this_first)) else (bd1 (fX10_instant N i_this_42 j_this) fun r45 => (if (0 : Int32) ≤ (lg_cmp r37 r45) then (bd1 (fX10_instant N i_this_42 j_this) fun r48 => (if (lg_cmp r37 r48) = (0 : Int32) then (fX10_compare_j149 N j_this f_this_spans K_64 v1 v2 v3 v4 (1 : Int32) i_this_42 f_this_row f_this_many f_this_first) else (fX10_compare_j149 N j_this f_this_spans K_64 v1 v2 v3 v4 (2 : Int32) i_this_42 f_this_row f_this_many f_this_first))) else (fX10_compare_j149 N j_this f_this_spans K_64 v1 v2 v3 v4 (0 : Int32) i_this_42 f_this_row f_this_many f_this_first)))))))))))) n
theorem fX10_compare_l64_s (N : Nat) (j_this : Nat → Int64) (f_this_spans : Nat → Int32) (n : Nat) (v1 : Int32) (v2 : Int32) (v3 : Int32) (v4 : Int32) (i_this : Nat → Int32) (f_this_row : Nat → Int64) (f_this_many : Nat → Int32) (f_this_first : Nat → Int32) : fX10_compare_l64 N j_this f_this_spans (n + 1) v1 v2 v3 v4 i_this f_this_row f_this_many f_this_first = (if (876216 : Int32) ≤ v4 then (fX10_compare_l195 N j_this f_this_spans N (0 : Int32) (upd i_this 8 (0 : Int32)) f_this_row f_this_many f_this_first) else (bd1 (fX10_stands N v4 (0 : Int32) i_this j_this) fun i_this_31 => (bd2 (fX10_addsSpan N v1 (1 : Int64) v3 (0 : Int32) i_this_31 j_this f_this_spans) fun r33 i_this_34 => (if r33 = (0 : Int32) then (nm (v4 + (1 : Int32)) fun z52 => ((fX10_compare_l64 N j_this f_this_spans n) v1 v2 v3 z52 i_this_34 f_this_row f_this_many f_this_first)) else (bd1 (fX10_instant N i_this_34 j_this) fun r37 => (bd1 (fX10_stands N v4 (0 : Int32) i_this_34 j_this) fun i_this_39 => (bd2 (fX10_addsSpan N v2 (1 : Int64) v3 (0 : Int32) i_this_39 j_this f_this_spans) fun r41 i_this_42 => (if r41 = (0 : Int32) then (nm (v4 + (1 : Int32)) fun z51 => ((fX10_compare_l64 N j_this f_this_spans n) v1 v2 v3 z51 i_this_42 f_this_row f_this_many f_this_first)) else (bd1 (fX10_instant N i_this_42 j_this) fun r45 => (if (0 : Int32) ≤ (lg_cmp r37 r45) then (bd1 (fX10_instant N i_this_42 j_this) fun r48 => (if (lg_cmp r37 r48) = (0 : Int32) then (fX10_compare_j149 N j_this f_this_spans (fX10_compare_l64 N j_this f_this_spans n) v1 v2 v3 v4 (1 : Int32) i_this_42 f_this_row f_this_many f_this_first) else (fX10_compare_j149 N j_this f_this_spans (fX10_compare_l64 N j_this f_this_spans n) v1 v2 v3 v4 (2 : Int32) i_this_42 f_this_row f_this_many f_this_first))) else (fX10_compare_j149 N j_this f_this_spans (fX10_compare_l64 N j_this f_this_spans n) v1 v2 v3 v4 (0 : Int32) i_this_42 f_this_row f_this_many f_this_first))))))))))) := rfl
theorem fX10_compare_l64_0 (N : Nat) (j_this : Nat → Int64) (f_this_spans : Nat → Int32) (v1 : Int32) (v2 : Int32) (v3 : Int32) (v4 : Int32) (i_this : Nat → Int32) (f_this_row : Nat → Int64) (f_this_many : Nat → Int32) (f_this_first : Nat → Int32) : fX10_compare_l64 N j_this f_this_spans 0 v1 v2 v3 v4 i_this f_this_row f_this_many f_this_first = none := rfl
noncomputable def fX10_compare_l31 (N : Nat) (j_this : Nat → Int64) (f_this_spans : Nat → Int32) (n : Nat) : Int32 → Int32 → Int32 → Int32 → (Nat → Int32) → (Nat → Int64) → (Nat → Int32) → (Nat → Int32) → Option (Int32 × (Nat → Int32) × (Nat → Int64) × (Nat → Int32) × (Nat → Int32)) := Nat.rec (motive := fun _ => Int32 → Int32 → Int32 → Int32 → (Nat → Int32) → (Nat → Int64) → (Nat → Int32) → (Nat → Int32) → Option (Int32 × (Nat → Int32) × (Nat → Int64) × (Nat → Int32) × (Nat → Int32))) (fun _ _ _ _ _ _ _ _ => none) (fun _ K_31 v1 v2 v3 v4 i_this f_this_row f_this_many f_this_first => (if (3 : Int32) ≤ v4 then (fX10_compare_l64 N j_this f_this_spans N v1 v2 v3 (730119 : Int32) i_this f_this_row f_this_many f_this_first) else (gi v4 3 (gi v4 3 (nm (v4 + (1 : Int32)) fun z56 => (K_31 v1 v2 v3 z56 i_this f_this_row (upd f_this_many v4.toNatClampNeg (0 : Int32)) (upd f_this_first v4.toNatClampNeg (-1 : Int32)))))))) n
theorem fX10_compare_l31_s (N : Nat) (j_this : Nat → Int64) (f_this_spans : Nat → Int32) (n : Nat) (v1 : Int32) (v2 : Int32) (v3 : Int32) (v4 : Int32) (i_this : Nat → Int32) (f_this_row : Nat → Int64) (f_this_many : Nat → Int32) (f_this_first : Nat → Int32) : fX10_compare_l31 N j_this f_this_spans (n + 1) v1 v2 v3 v4 i_this f_this_row f_this_many f_this_first = (if (3 : Int32) ≤ v4 then (fX10_compare_l64 N j_this f_this_spans N v1 v2 v3 (730119 : Int32) i_this f_this_row f_this_many f_this_first) else (gi v4 3 (gi v4 3 (nm (v4 + (1 : Int32)) fun z56 => ((fX10_compare_l31 N j_this f_this_spans n) v1 v2 v3 z56 i_this f_this_row (upd f_this_many v4.toNatClampNeg (0 : Int32)) (upd f_this_first v4.toNatClampNeg (-1 : Int32))))))) := rfl
theorem fX10_compare_l31_0 (N : Nat) (j_this : Nat → Int64) (f_this_spans : Nat → Int32) (v1 : Int32) (v2 : Int32) (v3 : Int32) (v4 : Int32) (i_this : Nat → Int32) (f_this_row : Nat → Int64) (f_this_many : Nat → Int32) (f_this_first : Nat → Int32) : fX10_compare_l31 N j_this f_this_spans 0 v1 v2 v3 v4 i_this f_this_row f_this_many f_this_first = none := rfl
noncomputable def fX10_compare (N : Nat) (p1 : Int32) (p2 : Int32) (p3 : Int32) (i_this : Nat → Int32) (j_this : Nat → Int64) (f_this_spans : Nat → Int32) (f_this_row : Nat → Int64) (f_this_many : Nat → Int32) (f_this_first : Nat → Int32) : Option (Int32 × (Nat → Int32) × (Nat → Int64) × (Nat → Int32) × (Nat → Int32)) := (bd1 (fX10_isSlot N p1) fun r57 => (if r57 = (0 : Int32) then (some ((-1 : Int32), (upd i_this 9 (0 : Int32)), f_this_row, f_this_many, f_this_first)) else (bd1 (fX10_isSlot N p2) fun r60 => (if r60 = (0 : Int32) then (some ((-1 : Int32), (upd i_this 9 (0 : Int32)), f_this_row, f_this_many, f_this_first)) else (bd1 (fX10_isLaw N p3) fun r63 => (if r63 = (0 : Int32) then (some ((-1 : Int32), (upd i_this 9 (0 : Int32)), f_this_row, f_this_many, f_this_first)) else (fX10_compare_l31 N j_this f_this_spans N p1 p2 p3 (0 : Int32) (upd i_this 9 (0 : Int32)) f_this_row f_this_many f_this_first)))))))
set_option maxHeartbeats 4000000 in
set_option maxRecDepth 100000 in
theorem kX10_compare (l : Launch) (dC : Nat → ClassId) (dI : Nat → Nat → Nat) (cI cJ cB : ClassId) (h_this h_this_dayAt h_this_secondAt h_this_spans h_this_kept h_this_text h_this_row h_this_read h_this_many h_this_first h_this_lengths h_this_page : Nat) (N : Nat) (p1 : Int32) (p2 : Int32) (p3 : Int32) (i_this : Nat → Int32) (j_this : Nat → Int64) (f_this_spans : Nat → Int32) (f_this_row : Nat → Int64) (f_this_many : Nat → Int32) (f_this_first : Nat → Int32) (r : Int32) (o_i_this : Nat → Int32) (o_f_this_row : Nat → Int64) (o_f_this_many : Nat → Int32) (o_f_this_first : Nat → Int32) (hf : fX10_compare N p1 p2 p3 i_this j_this f_this_spans f_this_row f_this_many f_this_first = some (r, o_i_this, o_f_this_row, o_f_this_many, o_f_this_first)) : MI l yX10_compare (kws yX10_compare cX10_compare 8 (some .int)) (kR 6 150) (dC, dI) (kT cI cJ cB) [.ref h_this, .int p1, .int p2, .int p3] [cl_X10 h_this h_this_dayAt h_this_secondAt h_this_spans h_this_kept h_this_text h_this_row h_this_read h_this_many h_this_first h_this_lengths h_this_page i_this j_this, (h_this_spans, .inl (cI, 24, .inl f_this_spans)), (h_this_row, .inl (cJ, 16, .inr (.inl f_this_row))), (h_this_many, .inl (cI, 3, .inl f_this_many)), (h_this_first, .inl (cI, 3, .inl f_this_first))] [cl_X10 h_this h_this_dayAt h_this_secondAt h_this_spans h_this_kept h_this_text h_this_row h_this_read h_this_many h_this_first h_this_lengths h_this_page o_i_this j_this, (h_this_spans, .inl (cI, 24, .inl f_this_spans)), (h_this_row, .inl (cJ, 16, .inr (.inl o_f_this_row))), (h_this_many, .inl (cI, 3, .inl o_f_this_many)), (h_this_first, .inl (cI, 3, .inl o_f_this_first))] r := by
  refine MI.of (cc := cX10_compare) (maxL := 8) (by decide) (Nat.le_of_ble_eq_true rfl) (fun p e s m args below meth c A Q ls KC hN hK hP hD hA hl hEnd => ?_)
  obtain ⟨hx, hb, hml, hown, hts⟩ := KC
  have hown : s.vm.findClass "DateSpansModel" = some m.cls := hown
  have hl : lv_has ls 8 [(0, .ref h_this), (1, .int p1), (2, .int p2), (3, .int p3)] := hl
  have hS : va_S A s.heap s.heap [] := va_S.rf
  have JN_260 : ∀ (t0 : Int32) (i_this : Nat → Int32) (f_this_row : Nat → Int64) (f_this_many : Nat → Int32) (f_this_first : Nat → Int32) (ls : Array Slot) (H : Heap) (locs : List Loc), (fX10_compare_j260 N j_this f_this_spans) t0 i_this f_this_row f_this_many f_this_first = some (r, o_i_this, o_f_this_row, o_f_this_many, o_f_this_first) → lv_has ls 8 [(0, .ref h_this)] → va_P (dC, dI) vwCl [cl_X10 h_this h_this_dayAt h_this_secondAt h_this_spans h_this_kept h_this_text h_this_row h_this_read h_this_many h_this_first h_this_lengths h_this_page i_this j_this, (h_this_spans, .inl (cI, 24, .inl f_this_spans)), (h_this_row, .inl (cJ, 16, .inr (.inl f_this_row))), (h_this_many, .inl (cI, 3, .inl f_this_many)), (h_this_first, .inl (cI, 3, .inl f_this_first))] H → va_D A [cl_X10 h_this h_this_dayAt h_this_secondAt h_this_spans h_this_kept h_this_text h_this_row h_this_read h_this_many h_this_first h_this_lengths h_this_page i_this j_this, (h_this_spans, .inl (cI, 24, .inl f_this_spans)), (h_this_row, .inl (cJ, 16, .inr (.inl f_this_row))), (h_this_many, .inl (cI, 3, .inl f_this_many)), (h_this_first, .inl (cI, 3, .inl f_this_first))] → va_S A s.heap H locs → W p l e (kR 6 150) s m args below meth c H locs 0 0 Q (F0 m 260 ls [.int t0]) := by
    intro t0 i_this f_this_row f_this_many f_this_first ls H locs h hl hP hD hS
    unfold fX10_compare_j260 at h
    refine lv_aload_n hx hb dX10_compare_260 rfl (lv_at hl 0 rfl) ?_
    refine va_get (D := (dC, dI)) (ci := 9) (v := .ref h_this_many) (C := RX10) (T := TX10) (N := 29) hx hb hts inX10 hown hK hP 0 rfl rfl 21 (by decide) (hts _ (kq q_1007 rfl)) (fun _ h9 => h9) rfl dX10_compare_261 ?_
    refine lv_iconst (v := (1 : Int32)) hx hb dX10_compare_264 (by decide) ?_
    obtain ⟨hi1, h⟩ := gi_at h
    refine va_iald hx hb hK hP 3 0 rfl rfl hi1 dX10_compare_265 ?_
    refine lv_if_le (tgt := 273) hx hb dX10_compare_266 (by decide) (fun c2 => ?_) (fun c2 => ?_)
    · have h := ite_t c2 h
      refine lv_iconst (v := (0 : Int32)) hx hb dX10_compare_273 (by decide) ?_
      refine lv_ior hx hb dX10_compare_274 ?_
      refine lv_aload_n hx hb dX10_compare_275 rfl (lv_at hl 0 rfl) ?_
      refine va_get (D := (dC, dI)) (ci := 9) (v := .ref h_this_many) (C := RX10) (T := TX10) (N := 29) hx hb hts inX10 hown hK hP 0 rfl rfl 21 (by decide) (hts _ (kq q_1007 rfl)) (fun _ h9 => h9) rfl dX10_compare_276 ?_
      refine lv_iconst (v := (2 : Int32)) hx hb dX10_compare_279 (by decide) ?_
      obtain ⟨hi3, h⟩ := gi_at h
      refine va_iald hx hb hK hP 3 0 rfl rfl hi3 dX10_compare_280 ?_
      refine lv_if_le (tgt := 288) hx hb dX10_compare_281 (by decide) (fun c4 => ?_) (fun c4 => ?_)
      · have h := ite_t c4 h
        refine lv_iconst (v := (0 : Int32)) hx hb dX10_compare_288 (by decide) ?_
        refine lv_ior hx hb dX10_compare_289 ?_
        obtain ⟨rfl, rfl, rfl, rfl, rfl⟩ := pj5 h
        exact hEnd _ _ _ _ hP hS dX10_compare_290 rfl
      have h := ite_f c4 h
      refine lv_iconst (v := (4 : Int32)) hx hb dX10_compare_284 (by decide) ?_
      refine lv_goto (tgt := 289) hx hb dX10_compare_285 (by decide) ?_
      refine lv_ior hx hb dX10_compare_289 ?_
      obtain ⟨rfl, rfl, rfl, rfl, rfl⟩ := pj5 h
      exact hEnd _ _ _ _ hP hS dX10_compare_290 rfl
    have h := ite_f c2 h
    refine lv_iconst (v := (2 : Int32)) hx hb dX10_compare_269 (by decide) ?_
    refine lv_goto (tgt := 274) hx hb dX10_compare_270 (by decide) ?_
    refine lv_ior hx hb dX10_compare_274 ?_
    refine lv_aload_n hx hb dX10_compare_275 rfl (lv_at hl 0 rfl) ?_
    refine va_get (D := (dC, dI)) (ci := 9) (v := .ref h_this_many) (C := RX10) (T := TX10) (N := 29) hx hb hts inX10 hown hK hP 0 rfl rfl 21 (by decide) (hts _ (kq q_1007 rfl)) (fun _ h9 => h9) rfl dX10_compare_276 ?_
    refine lv_iconst (v := (2 : Int32)) hx hb dX10_compare_279 (by decide) ?_
    obtain ⟨hi5, h⟩ := gi_at h
    refine va_iald hx hb hK hP 3 0 rfl rfl hi5 dX10_compare_280 ?_
    refine lv_if_le (tgt := 288) hx hb dX10_compare_281 (by decide) (fun c6 => ?_) (fun c6 => ?_)
    · have h := ite_t c6 h
      refine lv_iconst (v := (0 : Int32)) hx hb dX10_compare_288 (by decide) ?_
      refine lv_ior hx hb dX10_compare_289 ?_
      obtain ⟨rfl, rfl, rfl, rfl, rfl⟩ := pj5 h
      exact hEnd _ _ _ _ hP hS dX10_compare_290 rfl
    have h := ite_f c6 h
    refine lv_iconst (v := (4 : Int32)) hx hb dX10_compare_284 (by decide) ?_
    refine lv_goto (tgt := 289) hx hb dX10_compare_285 (by decide) ?_
    refine lv_ior hx hb dX10_compare_289 ?_
    obtain ⟨rfl, rfl, rfl, rfl, rfl⟩ := pj5 h
    exact hEnd _ _ _ _ hP hS dX10_compare_290 rfl
  have LP_222 : ∀ n_222 : Nat, ∀ (v4 : Int32) (i_this : Nat → Int32) (f_this_row : Nat → Int64) (f_this_many : Nat → Int32) (f_this_first : Nat → Int32) (ls : Array Slot) (H : Heap) (locs : List Loc), fX10_compare_l222 N j_this f_this_spans n_222 v4 i_this f_this_row f_this_many f_this_first = some (r, o_i_this, o_f_this_row, o_f_this_many, o_f_this_first) → lv_has ls 8 [(0, .ref h_this), (4, .int v4)] → va_P (dC, dI) vwCl [cl_X10 h_this h_this_dayAt h_this_secondAt h_this_spans h_this_kept h_this_text h_this_row h_this_read h_this_many h_this_first h_this_lengths h_this_page i_this j_this, (h_this_spans, .inl (cI, 24, .inl f_this_spans)), (h_this_row, .inl (cJ, 16, .inr (.inl f_this_row))), (h_this_many, .inl (cI, 3, .inl f_this_many)), (h_this_first, .inl (cI, 3, .inl f_this_first))] H → va_D A [cl_X10 h_this h_this_dayAt h_this_secondAt h_this_spans h_this_kept h_this_text h_this_row h_this_read h_this_many h_this_first h_this_lengths h_this_page i_this j_this, (h_this_spans, .inl (cI, 24, .inl f_this_spans)), (h_this_row, .inl (cJ, 16, .inr (.inl f_this_row))), (h_this_many, .inl (cI, 3, .inl f_this_many)), (h_this_first, .inl (cI, 3, .inl f_this_first))] → va_S A s.heap H locs → W p l e (kR 6 150) s m args below meth c H locs 0 0 Q (F0 m 222 ls []) := by
    intro n_222
    induction n_222 with
    | zero =>
      intro v4 i_this f_this_row f_this_many f_this_first ls H locs h hl hP hD hS
      rw [fX10_compare_l222_0] at h; cases h
    | succ n_222 ih_222 =>
      intro v4 i_this f_this_row f_this_many f_this_first ls H locs h hl hP hD hS
      rw [fX10_compare_l222_s] at h
      refine lv_iload hx hb dX10_compare_222 (lv_at hl 1 rfl) ?_
      refine lv_iconst (v := (3 : Int32)) hx hb dX10_compare_224 (by decide) ?_
      refine lv_icmp_ge (tgt := 246) hx hb dX10_compare_225 (by decide) (fun c7 => ?_) (fun c7 => ?_)
      · have h := ite_t c7 h
        refine lv_aload_n hx hb dX10_compare_246 rfl (lv_at hl 0 rfl) ?_
        refine va_get (D := (dC, dI)) (ci := 9) (v := .ref h_this_many) (C := RX10) (T := TX10) (N := 29) hx hb hts inX10 hown hK hP 0 rfl rfl 21 (by decide) (hts _ (kq q_1007 rfl)) (fun _ h9 => h9) rfl dX10_compare_247 ?_
        refine lv_iconst (v := (0 : Int32)) hx hb dX10_compare_250 (by decide) ?_
        obtain ⟨hi8, h⟩ := gi_at h
        refine va_iald hx hb hK hP 3 0 rfl rfl hi8 dX10_compare_251 ?_
        refine lv_if_le (tgt := 259) hx hb dX10_compare_252 (by decide) (fun c9 => ?_) (fun c9 => ?_)
        · have h := ite_t c9 h
          refine lv_iconst (v := (0 : Int32)) hx hb dX10_compare_259 (by decide) ?_
          exact JN_260 _ _ _ _ _ _ _ _ h (lv_sub hl [0] rfl) hP hD hS
        have h := ite_f c9 h
        refine lv_iconst (v := (1 : Int32)) hx hb dX10_compare_255 (by decide) ?_
        refine lv_goto (tgt := 260) hx hb dX10_compare_256 (by decide) ?_
        exact JN_260 _ _ _ _ _ _ _ _ h (lv_sub hl [0] rfl) hP hD hS
      have h := ite_f c7 h
      refine lv_aload_n hx hb dX10_compare_228 rfl (lv_at hl 0 rfl) ?_
      refine lv_aload_n hx hb dX10_compare_229 rfl (lv_at hl 0 rfl) ?_
      refine va_get (D := (dC, dI)) (ci := 9) (v := .ref h_this_first) (C := RX10) (T := TX10) (N := 29) hx hb hts inX10 hown hK hP 0 rfl rfl 22 (by decide) (hts _ (kq q_1008 rfl)) (fun _ h9 => h9) rfl dX10_compare_230 ?_
      refine lv_iload hx hb dX10_compare_233 (lv_at hl 1 rfl) ?_
      obtain ⟨hi10, h⟩ := gi_at h
      refine va_iald hx hb hK hP 4 0 rfl rfl hi10 dX10_compare_235 ?_
      refine lv_i2l hx hb dX10_compare_236 rfl ?_
      obtain ⟨i_this_11, f_this_row_12, hc13, h⟩ := bd2_at h
      refine kjV (kV (own := "DateSpansModel") (C := "DateSpansModel") (b := h_this) (As := [.long ((f_this_first v4.toNatClampNeg).toInt64)]) (rest := []) ⟨hx, hb, hml, hown, hts⟩ (kX10_tell l dC dI cI cJ cB h_this h_this_dayAt h_this_secondAt h_this_spans h_this_kept h_this_text h_this_row h_this_read h_this_many h_this_first h_this_lengths h_this_page N ((f_this_first v4.toNatClampNeg).toInt64) i_this j_this f_this_row i_this_11 f_this_row_12 hc13 _) (kgV (kq q_1221 rfl) (kq q_1223 rfl) (kq q_29 rfl) (kq q_66 rfl) (kq q_1224 rfl)) yd_X10_tell ⟨Nat.le_of_ble_eq_true rfl, Nat.le_of_ble_eq_true rfl⟩ hN hK hP hD [0, 2] rfl rfl (ci := 9) rfl rfl rfl rfl rfl hl.1 rfl (lv_room (Nat.le_of_ble_eq_true rfl)) dX10_compare_237) hP hD hS hA [0, 2] rfl rfl (fun H locs hP hD hS => ?_)
      have hP : va_P (dC, dI) vwCl [cl_X10 h_this h_this_dayAt h_this_secondAt h_this_spans h_this_kept h_this_text h_this_row h_this_read h_this_many h_this_first h_this_lengths h_this_page i_this_11 j_this, (h_this_spans, .inl (cI, 24, .inl f_this_spans)), (h_this_row, .inl (cJ, 16, .inr (.inl f_this_row_12))), (h_this_many, .inl (cI, 3, .inl f_this_many)), (h_this_first, .inl (cI, 3, .inl f_this_first))] H := hP
      have hD : va_D A [cl_X10 h_this h_this_dayAt h_this_secondAt h_this_spans h_this_kept h_this_text h_this_row h_this_read h_this_many h_this_first h_this_lengths h_this_page i_this_11 j_this, (h_this_spans, .inl (cI, 24, .inl f_this_spans)), (h_this_row, .inl (cJ, 16, .inr (.inl f_this_row_12))), (h_this_many, .inl (cI, 3, .inl f_this_many)), (h_this_first, .inl (cI, 3, .inl f_this_first))] := hD
      obtain ⟨z14, ez14⟩ : ∃ y : Int32, y = (v4 + (1 : Int32)) := ⟨_, rfl⟩
      have h := nm_at ez14 h
      refine lv_iinc (v := z14) (lv' := [(4, .int z14), (0, .ref h_this)]) hx hb dX10_compare_240 hl (k := 1) rfl (by rw [ez14]; rfl) (by decide) rfl (fun ls hl => ?_)
      refine lv_goto (tgt := 222) hx hb dX10_compare_243 (by decide) ?_
      exact ih_222 _ _ _ _ _ _ _ _ h (lv_sub hl [1, 0] rfl) hP hD hS
  have LP_195 : ∀ n_195 : Nat, ∀ (v4 : Int32) (i_this : Nat → Int32) (f_this_row : Nat → Int64) (f_this_many : Nat → Int32) (f_this_first : Nat → Int32) (ls : Array Slot) (H : Heap) (locs : List Loc), fX10_compare_l195 N j_this f_this_spans n_195 v4 i_this f_this_row f_this_many f_this_first = some (r, o_i_this, o_f_this_row, o_f_this_many, o_f_this_first) → lv_has ls 8 [(0, .ref h_this), (4, .int v4)] → va_P (dC, dI) vwCl [cl_X10 h_this h_this_dayAt h_this_secondAt h_this_spans h_this_kept h_this_text h_this_row h_this_read h_this_many h_this_first h_this_lengths h_this_page i_this j_this, (h_this_spans, .inl (cI, 24, .inl f_this_spans)), (h_this_row, .inl (cJ, 16, .inr (.inl f_this_row))), (h_this_many, .inl (cI, 3, .inl f_this_many)), (h_this_first, .inl (cI, 3, .inl f_this_first))] H → va_D A [cl_X10 h_this h_this_dayAt h_this_secondAt h_this_spans h_this_kept h_this_text h_this_row h_this_read h_this_many h_this_first h_this_lengths h_this_page i_this j_this, (h_this_spans, .inl (cI, 24, .inl f_this_spans)), (h_this_row, .inl (cJ, 16, .inr (.inl f_this_row))), (h_this_many, .inl (cI, 3, .inl f_this_many)), (h_this_first, .inl (cI, 3, .inl f_this_first))] → va_S A s.heap H locs → W p l e (kR 6 150) s m args below meth c H locs 0 0 Q (F0 m 195 ls []) := by
    intro n_195
    induction n_195 with
    | zero =>
      intro v4 i_this f_this_row f_this_many f_this_first ls H locs h hl hP hD hS
      rw [fX10_compare_l195_0] at h; cases h
    | succ n_195 ih_195 =>
      intro v4 i_this f_this_row f_this_many f_this_first ls H locs h hl hP hD hS
      rw [fX10_compare_l195_s] at h
      refine lv_iload hx hb dX10_compare_195 (lv_at hl 1 rfl) ?_
      refine lv_iconst (v := (3 : Int32)) hx hb dX10_compare_197 (by decide) ?_
      refine lv_icmp_ge (tgt := 219) hx hb dX10_compare_198 (by decide) (fun c15 => ?_) (fun c15 => ?_)
      · have h := ite_t c15 h
        refine lv_iconst (v := (0 : Int32)) hx hb dX10_compare_219 (by decide) ?_
        refine lv_istore (lv' := [(4, .int (0 : Int32)), (0, .ref h_this)]) hx hb dX10_compare_220 hl (by decide) rfl (fun ls hl => ?_)
        exact LP_222 N _ _ _ _ _ _ _ _ h (lv_sub hl [1, 0] rfl) hP hD hS
      have h := ite_f c15 h
      refine lv_aload_n hx hb dX10_compare_201 rfl (lv_at hl 0 rfl) ?_
      refine lv_aload_n hx hb dX10_compare_202 rfl (lv_at hl 0 rfl) ?_
      refine va_get (D := (dC, dI)) (ci := 9) (v := .ref h_this_many) (C := RX10) (T := TX10) (N := 29) hx hb hts inX10 hown hK hP 0 rfl rfl 21 (by decide) (hts _ (kq q_1007 rfl)) (fun _ h9 => h9) rfl dX10_compare_203 ?_
      refine lv_iload hx hb dX10_compare_206 (lv_at hl 1 rfl) ?_
      obtain ⟨hi16, h⟩ := gi_at h
      refine va_iald hx hb hK hP 3 0 rfl rfl hi16 dX10_compare_208 ?_
      refine lv_i2l hx hb dX10_compare_209 rfl ?_
      obtain ⟨i_this_17, f_this_row_18, hc19, h⟩ := bd2_at h
      refine kjV (kV (own := "DateSpansModel") (C := "DateSpansModel") (b := h_this) (As := [.long ((f_this_many v4.toNatClampNeg).toInt64)]) (rest := []) ⟨hx, hb, hml, hown, hts⟩ (kX10_tell l dC dI cI cJ cB h_this h_this_dayAt h_this_secondAt h_this_spans h_this_kept h_this_text h_this_row h_this_read h_this_many h_this_first h_this_lengths h_this_page N ((f_this_many v4.toNatClampNeg).toInt64) i_this j_this f_this_row i_this_17 f_this_row_18 hc19 _) (kgV (kq q_1221 rfl) (kq q_1223 rfl) (kq q_29 rfl) (kq q_66 rfl) (kq q_1224 rfl)) yd_X10_tell ⟨Nat.le_of_ble_eq_true rfl, Nat.le_of_ble_eq_true rfl⟩ hN hK hP hD [0, 2] rfl rfl (ci := 9) rfl rfl rfl rfl rfl hl.1 rfl (lv_room (Nat.le_of_ble_eq_true rfl)) dX10_compare_210) hP hD hS hA [0, 2] rfl rfl (fun H locs hP hD hS => ?_)
      have hP : va_P (dC, dI) vwCl [cl_X10 h_this h_this_dayAt h_this_secondAt h_this_spans h_this_kept h_this_text h_this_row h_this_read h_this_many h_this_first h_this_lengths h_this_page i_this_17 j_this, (h_this_spans, .inl (cI, 24, .inl f_this_spans)), (h_this_row, .inl (cJ, 16, .inr (.inl f_this_row_18))), (h_this_many, .inl (cI, 3, .inl f_this_many)), (h_this_first, .inl (cI, 3, .inl f_this_first))] H := hP
      have hD : va_D A [cl_X10 h_this h_this_dayAt h_this_secondAt h_this_spans h_this_kept h_this_text h_this_row h_this_read h_this_many h_this_first h_this_lengths h_this_page i_this_17 j_this, (h_this_spans, .inl (cI, 24, .inl f_this_spans)), (h_this_row, .inl (cJ, 16, .inr (.inl f_this_row_18))), (h_this_many, .inl (cI, 3, .inl f_this_many)), (h_this_first, .inl (cI, 3, .inl f_this_first))] := hD
      obtain ⟨z20, ez20⟩ : ∃ y : Int32, y = (v4 + (1 : Int32)) := ⟨_, rfl⟩
      have h := nm_at ez20 h
      refine lv_iinc (v := z20) (lv' := [(4, .int z20), (0, .ref h_this)]) hx hb dX10_compare_213 hl (k := 1) rfl (by rw [ez20]; rfl) (by decide) rfl (fun ls hl => ?_)
      refine lv_goto (tgt := 195) hx hb dX10_compare_216 (by decide) ?_
      exact ih_195 _ _ _ _ _ _ _ _ h (lv_sub hl [1, 0] rfl) hP hD hS
  have LP_64 : ∀ n_64 : Nat, ∀ (v1 : Int32) (v2 : Int32) (v3 : Int32) (v4 : Int32) (i_this : Nat → Int32) (f_this_row : Nat → Int64) (f_this_many : Nat → Int32) (f_this_first : Nat → Int32) (ls : Array Slot) (H : Heap) (locs : List Loc), fX10_compare_l64 N j_this f_this_spans n_64 v1 v2 v3 v4 i_this f_this_row f_this_many f_this_first = some (r, o_i_this, o_f_this_row, o_f_this_many, o_f_this_first) → lv_has ls 8 [(0, .ref h_this), (1, .int v1), (2, .int v2), (3, .int v3), (4, .int v4)] → va_P (dC, dI) vwCl [cl_X10 h_this h_this_dayAt h_this_secondAt h_this_spans h_this_kept h_this_text h_this_row h_this_read h_this_many h_this_first h_this_lengths h_this_page i_this j_this, (h_this_spans, .inl (cI, 24, .inl f_this_spans)), (h_this_row, .inl (cJ, 16, .inr (.inl f_this_row))), (h_this_many, .inl (cI, 3, .inl f_this_many)), (h_this_first, .inl (cI, 3, .inl f_this_first))] H → va_D A [cl_X10 h_this h_this_dayAt h_this_secondAt h_this_spans h_this_kept h_this_text h_this_row h_this_read h_this_many h_this_first h_this_lengths h_this_page i_this j_this, (h_this_spans, .inl (cI, 24, .inl f_this_spans)), (h_this_row, .inl (cJ, 16, .inr (.inl f_this_row))), (h_this_many, .inl (cI, 3, .inl f_this_many)), (h_this_first, .inl (cI, 3, .inl f_this_first))] → va_S A s.heap H locs → W p l e (kR 6 150) s m args below meth c H locs 0 0 Q (F0 m 64 ls []) := by
    intro n_64
    induction n_64 with
    | zero =>
      intro v1 v2 v3 v4 i_this f_this_row f_this_many f_this_first ls H locs h hl hP hD hS
      rw [fX10_compare_l64_0] at h; cases h
    | succ n_64 ih_64 =>
      have JN_149 : ∀ (v1 : Int32) (v2 : Int32) (v3 : Int32) (v4 : Int32) (t0 : Int32) (i_this : Nat → Int32) (f_this_row : Nat → Int64) (f_this_many : Nat → Int32) (f_this_first : Nat → Int32) (ls : Array Slot) (H : Heap) (locs : List Loc), (fX10_compare_j149 N j_this f_this_spans (fX10_compare_l64 N j_this f_this_spans n_64)) v1 v2 v3 v4 t0 i_this f_this_row f_this_many f_this_first = some (r, o_i_this, o_f_this_row, o_f_this_many, o_f_this_first) → lv_has ls 8 [(0, .ref h_this), (1, .int v1), (2, .int v2), (3, .int v3), (4, .int v4)] → va_P (dC, dI) vwCl [cl_X10 h_this h_this_dayAt h_this_secondAt h_this_spans h_this_kept h_this_text h_this_row h_this_read h_this_many h_this_first h_this_lengths h_this_page i_this j_this, (h_this_spans, .inl (cI, 24, .inl f_this_spans)), (h_this_row, .inl (cJ, 16, .inr (.inl f_this_row))), (h_this_many, .inl (cI, 3, .inl f_this_many)), (h_this_first, .inl (cI, 3, .inl f_this_first))] H → va_D A [cl_X10 h_this h_this_dayAt h_this_secondAt h_this_spans h_this_kept h_this_text h_this_row h_this_read h_this_many h_this_first h_this_lengths h_this_page i_this j_this, (h_this_spans, .inl (cI, 24, .inl f_this_spans)), (h_this_row, .inl (cJ, 16, .inr (.inl f_this_row))), (h_this_many, .inl (cI, 3, .inl f_this_many)), (h_this_first, .inl (cI, 3, .inl f_this_first))] → va_S A s.heap H locs → W p l e (kR 6 150) s m args below meth c H locs 0 0 Q (F0 m 149 ls [.int t0]) := by
        intro v1 v2 v3 v4 t0 i_this f_this_row f_this_many f_this_first ls H locs h hl hP hD hS
        unfold fX10_compare_j149 at h
        refine lv_istore (lv' := [(7, .int t0), (0, .ref h_this), (1, .int v1), (2, .int v2), (3, .int v3), (4, .int v4)]) hx hb dX10_compare_149 hl (by decide) rfl (fun ls hl => ?_)
        refine lv_aload_n hx hb dX10_compare_151 rfl (lv_at hl 1 rfl) ?_
        refine va_get (D := (dC, dI)) (ci := 9) (v := .ref h_this_many) (C := RX10) (T := TX10) (N := 29) hx hb hts inX10 hown hK hP 0 rfl rfl 21 (by decide) (hts _ (kq q_1007 rfl)) (fun _ h9 => h9) rfl dX10_compare_152 ?_
        refine lv_iload hx hb dX10_compare_155 (lv_at hl 0 rfl) ?_
        obtain ⟨hi21, h⟩ := gi_at h
        refine va_iald hx hb hK hP 3 0 rfl rfl hi21 dX10_compare_157 ?_
        refine lv_if_ne (tgt := 170) hx hb dX10_compare_158 (by decide) (fun c22 => ?_) (fun c22 => ?_)
        · have h := ite_f c22 h
          refine lv_aload_n hx hb dX10_compare_170 rfl (lv_at hl 1 rfl) ?_
          refine va_get (D := (dC, dI)) (ci := 9) (v := .ref h_this_many) (C := RX10) (T := TX10) (N := 29) hx hb hts inX10 hown hK hP 0 rfl rfl 21 (by decide) (hts _ (kq q_1007 rfl)) (fun _ h9 => h9) rfl dX10_compare_171 ?_
          refine lv_iload hx hb dX10_compare_174 (lv_at hl 0 rfl) ?_
          refine lv_dup2_11 hx hb dX10_compare_176 rfl rfl ?_
          obtain ⟨hi23, h⟩ := gi_at h
          refine va_iald hx hb hK hP 3 0 rfl rfl hi23 dX10_compare_177 ?_
          refine lv_iconst (v := (1 : Int32)) hx hb dX10_compare_178 (by decide) ?_
          refine lv_iadd hx hb dX10_compare_179 ?_
          obtain ⟨hi24, h⟩ := gi_at h
          refine va_iast hx hb hK hP hD hS 3 0 rfl rfl hi24 dX10_compare_180 (fun H locs hP hD hS => ?_)
          have hP : va_P (dC, dI) vwCl [cl_X10 h_this h_this_dayAt h_this_secondAt h_this_spans h_this_kept h_this_text h_this_row h_this_read h_this_many h_this_first h_this_lengths h_this_page i_this j_this, (h_this_spans, .inl (cI, 24, .inl f_this_spans)), (h_this_row, .inl (cJ, 16, .inr (.inl f_this_row))), (h_this_many, .inl (cI, 3, .inl (upd f_this_many t0.toNatClampNeg ((f_this_many t0.toNatClampNeg) + (1 : Int32))))), (h_this_first, .inl (cI, 3, .inl f_this_first))] H := hP
          have hD : va_D A [cl_X10 h_this h_this_dayAt h_this_secondAt h_this_spans h_this_kept h_this_text h_this_row h_this_read h_this_many h_this_first h_this_lengths h_this_page i_this j_this, (h_this_spans, .inl (cI, 24, .inl f_this_spans)), (h_this_row, .inl (cJ, 16, .inr (.inl f_this_row))), (h_this_many, .inl (cI, 3, .inl (upd f_this_many t0.toNatClampNeg ((f_this_many t0.toNatClampNeg) + (1 : Int32))))), (h_this_first, .inl (cI, 3, .inl f_this_first))] := hD
          obtain ⟨z25, ez25⟩ : ∃ y : Int32, y = (v4 + (1 : Int32)) := ⟨_, rfl⟩
          have h := nm_at ez25 h
          refine lv_iinc (v := z25) (lv' := [(4, .int z25), (7, .int t0), (0, .ref h_this), (1, .int v1), (2, .int v2), (3, .int v3)]) hx hb dX10_compare_181 hl (k := 5) rfl (by rw [ez25]; rfl) (by decide) rfl (fun ls hl => ?_)
          refine lv_goto (tgt := 64) hx hb dX10_compare_184 (by decide) ?_
          exact ih_64 _ _ _ _ _ _ _ _ _ _ _ h (lv_sub hl [2, 3, 4, 5, 0] rfl) hP hD hS
        have h := ite_t c22 h
        refine lv_aload_n hx hb dX10_compare_161 rfl (lv_at hl 1 rfl) ?_
        refine va_get (D := (dC, dI)) (ci := 9) (v := .ref h_this_first) (C := RX10) (T := TX10) (N := 29) hx hb hts inX10 hown hK hP 0 rfl rfl 22 (by decide) (hts _ (kq q_1008 rfl)) (fun _ h9 => h9) rfl dX10_compare_162 ?_
        refine lv_iload hx hb dX10_compare_165 (lv_at hl 0 rfl) ?_
        refine lv_iload hx hb dX10_compare_167 (lv_at hl 5 rfl) ?_
        obtain ⟨hi26, h⟩ := gi_at h
        refine va_iast hx hb hK hP hD hS 4 0 rfl rfl hi26 dX10_compare_169 (fun H locs hP hD hS => ?_)
        have hP : va_P (dC, dI) vwCl [cl_X10 h_this h_this_dayAt h_this_secondAt h_this_spans h_this_kept h_this_text h_this_row h_this_read h_this_many h_this_first h_this_lengths h_this_page i_this j_this, (h_this_spans, .inl (cI, 24, .inl f_this_spans)), (h_this_row, .inl (cJ, 16, .inr (.inl f_this_row))), (h_this_many, .inl (cI, 3, .inl f_this_many)), (h_this_first, .inl (cI, 3, .inl (upd f_this_first t0.toNatClampNeg v4)))] H := hP
        have hD : va_D A [cl_X10 h_this h_this_dayAt h_this_secondAt h_this_spans h_this_kept h_this_text h_this_row h_this_read h_this_many h_this_first h_this_lengths h_this_page i_this j_this, (h_this_spans, .inl (cI, 24, .inl f_this_spans)), (h_this_row, .inl (cJ, 16, .inr (.inl f_this_row))), (h_this_many, .inl (cI, 3, .inl f_this_many)), (h_this_first, .inl (cI, 3, .inl (upd f_this_first t0.toNatClampNeg v4)))] := hD
        refine lv_aload_n hx hb dX10_compare_170 rfl (lv_at hl 1 rfl) ?_
        refine va_get (D := (dC, dI)) (ci := 9) (v := .ref h_this_many) (C := RX10) (T := TX10) (N := 29) hx hb hts inX10 hown hK hP 0 rfl rfl 21 (by decide) (hts _ (kq q_1007 rfl)) (fun _ h9 => h9) rfl dX10_compare_171 ?_
        refine lv_iload hx hb dX10_compare_174 (lv_at hl 0 rfl) ?_
        refine lv_dup2_11 hx hb dX10_compare_176 rfl rfl ?_
        obtain ⟨hi27, h⟩ := gi_at h
        refine va_iald hx hb hK hP 3 0 rfl rfl hi27 dX10_compare_177 ?_
        refine lv_iconst (v := (1 : Int32)) hx hb dX10_compare_178 (by decide) ?_
        refine lv_iadd hx hb dX10_compare_179 ?_
        obtain ⟨hi28, h⟩ := gi_at h
        refine va_iast hx hb hK hP hD hS 3 0 rfl rfl hi28 dX10_compare_180 (fun H locs hP hD hS => ?_)
        have hP : va_P (dC, dI) vwCl [cl_X10 h_this h_this_dayAt h_this_secondAt h_this_spans h_this_kept h_this_text h_this_row h_this_read h_this_many h_this_first h_this_lengths h_this_page i_this j_this, (h_this_spans, .inl (cI, 24, .inl f_this_spans)), (h_this_row, .inl (cJ, 16, .inr (.inl f_this_row))), (h_this_many, .inl (cI, 3, .inl (upd f_this_many t0.toNatClampNeg ((f_this_many t0.toNatClampNeg) + (1 : Int32))))), (h_this_first, .inl (cI, 3, .inl (upd f_this_first t0.toNatClampNeg v4)))] H := hP
        have hD : va_D A [cl_X10 h_this h_this_dayAt h_this_secondAt h_this_spans h_this_kept h_this_text h_this_row h_this_read h_this_many h_this_first h_this_lengths h_this_page i_this j_this, (h_this_spans, .inl (cI, 24, .inl f_this_spans)), (h_this_row, .inl (cJ, 16, .inr (.inl f_this_row))), (h_this_many, .inl (cI, 3, .inl (upd f_this_many t0.toNatClampNeg ((f_this_many t0.toNatClampNeg) + (1 : Int32))))), (h_this_first, .inl (cI, 3, .inl (upd f_this_first t0.toNatClampNeg v4)))] := hD
        obtain ⟨z29, ez29⟩ : ∃ y : Int32, y = (v4 + (1 : Int32)) := ⟨_, rfl⟩
        have h := nm_at ez29 h
        refine lv_iinc (v := z29) (lv' := [(4, .int z29), (7, .int t0), (0, .ref h_this), (1, .int v1), (2, .int v2), (3, .int v3)]) hx hb dX10_compare_181 hl (k := 5) rfl (by rw [ez29]; rfl) (by decide) rfl (fun ls hl => ?_)
        refine lv_goto (tgt := 64) hx hb dX10_compare_184 (by decide) ?_
        exact ih_64 _ _ _ _ _ _ _ _ _ _ _ h (lv_sub hl [2, 3, 4, 5, 0] rfl) hP hD hS
      intro v1 v2 v3 v4 i_this f_this_row f_this_many f_this_first ls H locs h hl hP hD hS
      rw [fX10_compare_l64_s] at h
      refine lv_iload hx hb dX10_compare_64 (lv_at hl 4 rfl) ?_
      refine lv_ldcw (v := (876216 : Int32)) hx hb hown (hts _ (kq q_1374 rfl)) dX10_compare_66 ?_
      refine lv_icmp_ge (tgt := 187) hx hb dX10_compare_69 (by decide) (fun c30 => ?_) (fun c30 => ?_)
      · have h := ite_t c30 h
        refine lv_aload_n hx hb dX10_compare_187 rfl (lv_at hl 0 rfl) ?_
        refine lv_iconst (v := (0 : Int32)) hx hb dX10_compare_188 (by decide) ?_
        refine va_put (D := (dC, dI)) (ci := 9) (v := .int (0 : Int32)) (ty := .int) (C := RX10) (T := TX10) (N := 29) hx hb hts inX10 tyX10 tyX10_ok nmX10 hown hK hP hD hS 0 rfl rfl 8 (by decide) (hts _ (kq q_994 rfl)) (fun _ h9 => h9) rfl (by decide +kernel) rfl rfl (Nat.le_of_ble_eq_true rfl) dX10_compare_189 (fun H locs hP hD hS => ?_)
        have hP : va_P (dC, dI) vwCl [(h_this, .inr (9, [.ref h_this_dayAt, .ref h_this_secondAt, .ref h_this_spans, .ref h_this_kept, .int (i_this 4), .ref h_this_text, .int (i_this 6), .ref h_this_row, .int (0 : Int32), .int (i_this 9), .int (i_this 10), .int (i_this 11), .int (i_this 12), .int (i_this 13), .int (i_this 14), .int (i_this 15), .int (i_this 16), .int (i_this 17), .int (i_this 18), .ref h_this_read, .long (j_this 20), .ref h_this_many, .ref h_this_first, .ref h_this_lengths, .int (i_this 24), .long (j_this 25), .long (j_this 26), .ref h_this_page, .int (i_this 28)])), (h_this_spans, .inl (cI, 24, .inl f_this_spans)), (h_this_row, .inl (cJ, 16, .inr (.inl f_this_row))), (h_this_many, .inl (cI, 3, .inl f_this_many)), (h_this_first, .inl (cI, 3, .inl f_this_first))] H := hP
        have hD : va_D A [(h_this, .inr (9, [.ref h_this_dayAt, .ref h_this_secondAt, .ref h_this_spans, .ref h_this_kept, .int (i_this 4), .ref h_this_text, .int (i_this 6), .ref h_this_row, .int (0 : Int32), .int (i_this 9), .int (i_this 10), .int (i_this 11), .int (i_this 12), .int (i_this 13), .int (i_this 14), .int (i_this 15), .int (i_this 16), .int (i_this 17), .int (i_this 18), .ref h_this_read, .long (j_this 20), .ref h_this_many, .ref h_this_first, .ref h_this_lengths, .int (i_this 24), .long (j_this 25), .long (j_this 26), .ref h_this_page, .int (i_this 28)])), (h_this_spans, .inl (cI, 24, .inl f_this_spans)), (h_this_row, .inl (cJ, 16, .inr (.inl f_this_row))), (h_this_many, .inl (cI, 3, .inl f_this_many)), (h_this_first, .inl (cI, 3, .inl f_this_first))] := hD
        refine lv_iconst (v := (0 : Int32)) hx hb dX10_compare_192 (by decide) ?_
        refine lv_istore (lv' := [(4, .int (0 : Int32)), (0, .ref h_this), (1, .int v1), (2, .int v2), (3, .int v3)]) hx hb dX10_compare_193 hl (by decide) rfl (fun ls hl => ?_)
        have hP : va_P (dC, dI) vwCl [cl_X10 h_this h_this_dayAt h_this_secondAt h_this_spans h_this_kept h_this_text h_this_row h_this_read h_this_many h_this_first h_this_lengths h_this_page (upd i_this 8 (0 : Int32)) j_this, (h_this_spans, .inl (cI, 24, .inl f_this_spans)), (h_this_row, .inl (cJ, 16, .inr (.inl f_this_row))), (h_this_many, .inl (cI, 3, .inl f_this_many)), (h_this_first, .inl (cI, 3, .inl f_this_first))] H := hP
        have hD : va_D A [cl_X10 h_this h_this_dayAt h_this_secondAt h_this_spans h_this_kept h_this_text h_this_row h_this_read h_this_many h_this_first h_this_lengths h_this_page (upd i_this 8 (0 : Int32)) j_this, (h_this_spans, .inl (cI, 24, .inl f_this_spans)), (h_this_row, .inl (cJ, 16, .inr (.inl f_this_row))), (h_this_many, .inl (cI, 3, .inl f_this_many)), (h_this_first, .inl (cI, 3, .inl f_this_first))] := hD
        exact LP_195 N _ _ _ _ _ _ _ _ h (lv_sub hl [1, 0] rfl) hP hD hS
      have h := ite_f c30 h
      refine lv_aload_n hx hb dX10_compare_72 rfl (lv_at hl 0 rfl) ?_
      refine lv_iload hx hb dX10_compare_73 (lv_at hl 4 rfl) ?_
      refine lv_iconst (v := (0 : Int32)) hx hb dX10_compare_75 (by decide) ?_
      obtain ⟨i_this_31, hc32, h⟩ := bd1_at h
      refine kjV (kV (own := "DateSpansModel") (C := "DateSpansModel") (b := h_this) (As := [.int v4, .int (0 : Int32)]) (rest := []) ⟨hx, hb, hml, hown, hts⟩ (kX10_stands l dC dI cI cJ cB h_this h_this_dayAt h_this_secondAt h_this_spans h_this_kept h_this_text h_this_row h_this_read h_this_many h_this_first h_this_lengths h_this_page N v4 (0 : Int32) i_this j_this i_this_31 hc32 _) (kgV (kq q_1136 rfl) (kq q_1138 rfl) (kq q_24 rfl) (kq q_66 rfl) (kq q_1139 rfl)) yd_X10_stands ⟨Nat.le_of_ble_eq_true rfl, Nat.le_of_ble_eq_true rfl⟩ hN hK hP hD [0] rfl rfl (ci := 9) rfl rfl rfl rfl rfl hl.1 rfl (lv_room (Nat.le_of_ble_eq_true rfl)) dX10_compare_76) hP hD hS hA [0] rfl rfl (fun H locs hP hD hS => ?_)
      have hP : va_P (dC, dI) vwCl [cl_X10 h_this h_this_dayAt h_this_secondAt h_this_spans h_this_kept h_this_text h_this_row h_this_read h_this_many h_this_first h_this_lengths h_this_page i_this_31 j_this, (h_this_spans, .inl (cI, 24, .inl f_this_spans)), (h_this_row, .inl (cJ, 16, .inr (.inl f_this_row))), (h_this_many, .inl (cI, 3, .inl f_this_many)), (h_this_first, .inl (cI, 3, .inl f_this_first))] H := hP
      have hD : va_D A [cl_X10 h_this h_this_dayAt h_this_secondAt h_this_spans h_this_kept h_this_text h_this_row h_this_read h_this_many h_this_first h_this_lengths h_this_page i_this_31 j_this, (h_this_spans, .inl (cI, 24, .inl f_this_spans)), (h_this_row, .inl (cJ, 16, .inr (.inl f_this_row))), (h_this_many, .inl (cI, 3, .inl f_this_many)), (h_this_first, .inl (cI, 3, .inl f_this_first))] := hD
      refine lv_aload_n hx hb dX10_compare_79 rfl (lv_at hl 0 rfl) ?_
      refine lv_iload_n hx hb dX10_compare_80 rfl (lv_at hl 1 rfl) ?_
      refine lv_lconst (v := (1 : Int64)) hx hb dX10_compare_81 (by decide) ?_
      refine lv_iload_n hx hb dX10_compare_82 rfl (lv_at hl 3 rfl) ?_
      refine lv_iconst (v := (0 : Int32)) hx hb dX10_compare_83 (by decide) ?_
      obtain ⟨r33, i_this_34, hc35, h⟩ := bd2_at h
      refine kjI (kV (own := "DateSpansModel") (C := "DateSpansModel") (b := h_this) (As := [.int v1, .long (1 : Int64), .int v3, .int (0 : Int32)]) (rest := []) ⟨hx, hb, hml, hown, hts⟩ (kX10_addsSpan l dC dI cI cJ cB h_this h_this_dayAt h_this_secondAt h_this_spans h_this_kept h_this_text h_this_row h_this_read h_this_many h_this_first h_this_lengths h_this_page N v1 (1 : Int64) v3 (0 : Int32) i_this_31 j_this f_this_spans r33 i_this_34 hc35 _) (kgV (kq q_1286 rfl) (kq q_1288 rfl) (kq q_33 rfl) (kq q_66 rfl) (kq q_1289 rfl)) yd_X10_addsSpan ⟨Nat.le_of_ble_eq_true rfl, Nat.le_of_ble_eq_true rfl⟩ hN hK hP hD [0, 1] rfl rfl (ci := 9) rfl rfl rfl rfl rfl hl.1 rfl (lv_room (Nat.le_of_ble_eq_true rfl)) dX10_compare_84) hP hD hS hA [0, 1] rfl rfl (fun H locs hP hD hS => ?_)
      have hP : va_P (dC, dI) vwCl [cl_X10 h_this h_this_dayAt h_this_secondAt h_this_spans h_this_kept h_this_text h_this_row h_this_read h_this_many h_this_first h_this_lengths h_this_page i_this_34 j_this, (h_this_spans, .inl (cI, 24, .inl f_this_spans)), (h_this_row, .inl (cJ, 16, .inr (.inl f_this_row))), (h_this_many, .inl (cI, 3, .inl f_this_many)), (h_this_first, .inl (cI, 3, .inl f_this_first))] H := hP
      have hD : va_D A [cl_X10 h_this h_this_dayAt h_this_secondAt h_this_spans h_this_kept h_this_text h_this_row h_this_read h_this_many h_this_first h_this_lengths h_this_page i_this_34 j_this, (h_this_spans, .inl (cI, 24, .inl f_this_spans)), (h_this_row, .inl (cJ, 16, .inr (.inl f_this_row))), (h_this_many, .inl (cI, 3, .inl f_this_many)), (h_this_first, .inl (cI, 3, .inl f_this_first))] := hD
      refine lv_if_ne (tgt := 93) hx hb dX10_compare_87 (by decide) (fun c36 => ?_) (fun c36 => ?_)
      · have h := ite_f c36 h
        refine lv_aload_n hx hb dX10_compare_93 rfl (lv_at hl 0 rfl) ?_
        obtain ⟨r37, hc38, h⟩ := bd1_at h
        refine kjL (kV (own := "DateSpansModel") (C := "DateSpansModel") (b := h_this) (As := []) (rest := []) ⟨hx, hb, hml, hown, hts⟩ (kX10_instant l dC dI cI cJ cB h_this h_this_dayAt h_this_secondAt h_this_spans h_this_kept h_this_text h_this_row h_this_read h_this_many h_this_first h_this_lengths h_this_page N i_this_34 j_this r37 hc38 _) (kgV (kq q_1352 rfl) (kq q_1354 rfl) (kq q_42 rfl) (kq q_66 rfl) (kq q_1355 rfl)) yd_X10_instant ⟨Nat.le_of_ble_eq_true rfl, Nat.le_of_ble_eq_true rfl⟩ hN hK hP hD [0] rfl rfl (ci := 9) rfl rfl rfl rfl rfl hl.1 rfl (lv_room (Nat.le_of_ble_eq_true rfl)) dX10_compare_94) hP hD hS hA [0] rfl rfl (fun H locs hP hD hS => ?_)
        have hP : va_P (dC, dI) vwCl [cl_X10 h_this h_this_dayAt h_this_secondAt h_this_spans h_this_kept h_this_text h_this_row h_this_read h_this_many h_this_first h_this_lengths h_this_page i_this_34 j_this, (h_this_spans, .inl (cI, 24, .inl f_this_spans)), (h_this_row, .inl (cJ, 16, .inr (.inl f_this_row))), (h_this_many, .inl (cI, 3, .inl f_this_many)), (h_this_first, .inl (cI, 3, .inl f_this_first))] H := hP
        have hD : va_D A [cl_X10 h_this h_this_dayAt h_this_secondAt h_this_spans h_this_kept h_this_text h_this_row h_this_read h_this_many h_this_first h_this_lengths h_this_page i_this_34 j_this, (h_this_spans, .inl (cI, 24, .inl f_this_spans)), (h_this_row, .inl (cJ, 16, .inr (.inl f_this_row))), (h_this_many, .inl (cI, 3, .inl f_this_many)), (h_this_first, .inl (cI, 3, .inl f_this_first))] := hD
        refine lv_lstore (lv' := [(5, .long r37), (0, .ref h_this), (1, .int v1), (2, .int v2), (3, .int v3), (4, .int v4)]) hx hb dX10_compare_97 hl (by decide) rfl (fun ls hl => ?_)
        refine lv_aload_n hx hb dX10_compare_99 rfl (lv_at hl 1 rfl) ?_
        refine lv_iload hx hb dX10_compare_100 (lv_at hl 5 rfl) ?_
        refine lv_iconst (v := (0 : Int32)) hx hb dX10_compare_102 (by decide) ?_
        obtain ⟨i_this_39, hc40, h⟩ := bd1_at h
        refine kjV (kV (own := "DateSpansModel") (C := "DateSpansModel") (b := h_this) (As := [.int v4, .int (0 : Int32)]) (rest := []) ⟨hx, hb, hml, hown, hts⟩ (kX10_stands l dC dI cI cJ cB h_this h_this_dayAt h_this_secondAt h_this_spans h_this_kept h_this_text h_this_row h_this_read h_this_many h_this_first h_this_lengths h_this_page N v4 (0 : Int32) i_this_34 j_this i_this_39 hc40 _) (kgV (kq q_1136 rfl) (kq q_1138 rfl) (kq q_24 rfl) (kq q_66 rfl) (kq q_1139 rfl)) yd_X10_stands ⟨Nat.le_of_ble_eq_true rfl, Nat.le_of_ble_eq_true rfl⟩ hN hK hP hD [0] rfl rfl (ci := 9) rfl rfl rfl rfl rfl hl.1 rfl (lv_room (Nat.le_of_ble_eq_true rfl)) dX10_compare_103) hP hD hS hA [0] rfl rfl (fun H locs hP hD hS => ?_)
        have hP : va_P (dC, dI) vwCl [cl_X10 h_this h_this_dayAt h_this_secondAt h_this_spans h_this_kept h_this_text h_this_row h_this_read h_this_many h_this_first h_this_lengths h_this_page i_this_39 j_this, (h_this_spans, .inl (cI, 24, .inl f_this_spans)), (h_this_row, .inl (cJ, 16, .inr (.inl f_this_row))), (h_this_many, .inl (cI, 3, .inl f_this_many)), (h_this_first, .inl (cI, 3, .inl f_this_first))] H := hP
        have hD : va_D A [cl_X10 h_this h_this_dayAt h_this_secondAt h_this_spans h_this_kept h_this_text h_this_row h_this_read h_this_many h_this_first h_this_lengths h_this_page i_this_39 j_this, (h_this_spans, .inl (cI, 24, .inl f_this_spans)), (h_this_row, .inl (cJ, 16, .inr (.inl f_this_row))), (h_this_many, .inl (cI, 3, .inl f_this_many)), (h_this_first, .inl (cI, 3, .inl f_this_first))] := hD
        refine lv_aload_n hx hb dX10_compare_106 rfl (lv_at hl 1 rfl) ?_
        refine lv_iload_n hx hb dX10_compare_107 rfl (lv_at hl 3 rfl) ?_
        refine lv_lconst (v := (1 : Int64)) hx hb dX10_compare_108 (by decide) ?_
        refine lv_iload_n hx hb dX10_compare_109 rfl (lv_at hl 4 rfl) ?_
        refine lv_iconst (v := (0 : Int32)) hx hb dX10_compare_110 (by decide) ?_
        obtain ⟨r41, i_this_42, hc43, h⟩ := bd2_at h
        refine kjI (kV (own := "DateSpansModel") (C := "DateSpansModel") (b := h_this) (As := [.int v2, .long (1 : Int64), .int v3, .int (0 : Int32)]) (rest := []) ⟨hx, hb, hml, hown, hts⟩ (kX10_addsSpan l dC dI cI cJ cB h_this h_this_dayAt h_this_secondAt h_this_spans h_this_kept h_this_text h_this_row h_this_read h_this_many h_this_first h_this_lengths h_this_page N v2 (1 : Int64) v3 (0 : Int32) i_this_39 j_this f_this_spans r41 i_this_42 hc43 _) (kgV (kq q_1286 rfl) (kq q_1288 rfl) (kq q_33 rfl) (kq q_66 rfl) (kq q_1289 rfl)) yd_X10_addsSpan ⟨Nat.le_of_ble_eq_true rfl, Nat.le_of_ble_eq_true rfl⟩ hN hK hP hD [0, 1] rfl rfl (ci := 9) rfl rfl rfl rfl rfl hl.1 rfl (lv_room (Nat.le_of_ble_eq_true rfl)) dX10_compare_111) hP hD hS hA [0, 1] rfl rfl (fun H locs hP hD hS => ?_)
        have hP : va_P (dC, dI) vwCl [cl_X10 h_this h_this_dayAt h_this_secondAt h_this_spans h_this_kept h_this_text h_this_row h_this_read h_this_many h_this_first h_this_lengths h_this_page i_this_42 j_this, (h_this_spans, .inl (cI, 24, .inl f_this_spans)), (h_this_row, .inl (cJ, 16, .inr (.inl f_this_row))), (h_this_many, .inl (cI, 3, .inl f_this_many)), (h_this_first, .inl (cI, 3, .inl f_this_first))] H := hP
        have hD : va_D A [cl_X10 h_this h_this_dayAt h_this_secondAt h_this_spans h_this_kept h_this_text h_this_row h_this_read h_this_many h_this_first h_this_lengths h_this_page i_this_42 j_this, (h_this_spans, .inl (cI, 24, .inl f_this_spans)), (h_this_row, .inl (cJ, 16, .inr (.inl f_this_row))), (h_this_many, .inl (cI, 3, .inl f_this_many)), (h_this_first, .inl (cI, 3, .inl f_this_first))] := hD
        refine lv_if_ne (tgt := 120) hx hb dX10_compare_114 (by decide) (fun c44 => ?_) (fun c44 => ?_)
        · have h := ite_f c44 h
          refine lv_lload hx hb dX10_compare_120 (lv_at hl 0 rfl) ?_
          refine lv_aload_n hx hb dX10_compare_122 rfl (lv_at hl 1 rfl) ?_
          obtain ⟨r45, hc46, h⟩ := bd1_at h
          refine kjL (kV (own := "DateSpansModel") (C := "DateSpansModel") (b := h_this) (As := []) (rest := [.long r37]) ⟨hx, hb, hml, hown, hts⟩ (kX10_instant l dC dI cI cJ cB h_this h_this_dayAt h_this_secondAt h_this_spans h_this_kept h_this_text h_this_row h_this_read h_this_many h_this_first h_this_lengths h_this_page N i_this_42 j_this r45 hc46 _) (kgV (kq q_1352 rfl) (kq q_1354 rfl) (kq q_42 rfl) (kq q_66 rfl) (kq q_1355 rfl)) yd_X10_instant ⟨Nat.le_of_ble_eq_true rfl, Nat.le_of_ble_eq_true rfl⟩ hN hK hP hD [0] rfl rfl (ci := 9) rfl rfl rfl rfl rfl hl.1 rfl (lv_room (Nat.le_of_ble_eq_true rfl)) dX10_compare_123) hP hD hS hA [0] rfl rfl (fun H locs hP hD hS => ?_)
          have hP : va_P (dC, dI) vwCl [cl_X10 h_this h_this_dayAt h_this_secondAt h_this_spans h_this_kept h_this_text h_this_row h_this_read h_this_many h_this_first h_this_lengths h_this_page i_this_42 j_this, (h_this_spans, .inl (cI, 24, .inl f_this_spans)), (h_this_row, .inl (cJ, 16, .inr (.inl f_this_row))), (h_this_many, .inl (cI, 3, .inl f_this_many)), (h_this_first, .inl (cI, 3, .inl f_this_first))] H := hP
          have hD : va_D A [cl_X10 h_this h_this_dayAt h_this_secondAt h_this_spans h_this_kept h_this_text h_this_row h_this_read h_this_many h_this_first h_this_lengths h_this_page i_this_42 j_this, (h_this_spans, .inl (cI, 24, .inl f_this_spans)), (h_this_row, .inl (cJ, 16, .inr (.inl f_this_row))), (h_this_many, .inl (cI, 3, .inl f_this_many)), (h_this_first, .inl (cI, 3, .inl f_this_first))] := hD
          refine W.lcmp hx hb dX10_compare_126 ?_
          refine lv_if_ge (tgt := 134) hx hb dX10_compare_127 (by decide) (fun c47 => ?_) (fun c47 => ?_)
          · have h := ite_t c47 h
            refine lv_lload hx hb dX10_compare_134 (lv_at hl 0 rfl) ?_
            refine lv_aload_n hx hb dX10_compare_136 rfl (lv_at hl 1 rfl) ?_
            obtain ⟨r48, hc49, h⟩ := bd1_at h
            refine kjL (kV (own := "DateSpansModel") (C := "DateSpansModel") (b := h_this) (As := []) (rest := [.long r37]) ⟨hx, hb, hml, hown, hts⟩ (kX10_instant l dC dI cI cJ cB h_this h_this_dayAt h_this_secondAt h_this_spans h_this_kept h_this_text h_this_row h_this_read h_this_many h_this_first h_this_lengths h_this_page N i_this_42 j_this r48 hc49 _) (kgV (kq q_1352 rfl) (kq q_1354 rfl) (kq q_42 rfl) (kq q_66 rfl) (kq q_1355 rfl)) yd_X10_instant ⟨Nat.le_of_ble_eq_true rfl, Nat.le_of_ble_eq_true rfl⟩ hN hK hP hD [0] rfl rfl (ci := 9) rfl rfl rfl rfl rfl hl.1 rfl (lv_room (Nat.le_of_ble_eq_true rfl)) dX10_compare_137) hP hD hS hA [0] rfl rfl (fun H locs hP hD hS => ?_)
            have hP : va_P (dC, dI) vwCl [cl_X10 h_this h_this_dayAt h_this_secondAt h_this_spans h_this_kept h_this_text h_this_row h_this_read h_this_many h_this_first h_this_lengths h_this_page i_this_42 j_this, (h_this_spans, .inl (cI, 24, .inl f_this_spans)), (h_this_row, .inl (cJ, 16, .inr (.inl f_this_row))), (h_this_many, .inl (cI, 3, .inl f_this_many)), (h_this_first, .inl (cI, 3, .inl f_this_first))] H := hP
            have hD : va_D A [cl_X10 h_this h_this_dayAt h_this_secondAt h_this_spans h_this_kept h_this_text h_this_row h_this_read h_this_many h_this_first h_this_lengths h_this_page i_this_42 j_this, (h_this_spans, .inl (cI, 24, .inl f_this_spans)), (h_this_row, .inl (cJ, 16, .inr (.inl f_this_row))), (h_this_many, .inl (cI, 3, .inl f_this_many)), (h_this_first, .inl (cI, 3, .inl f_this_first))] := hD
            refine W.lcmp hx hb dX10_compare_140 ?_
            refine lv_if_ne (tgt := 148) hx hb dX10_compare_141 (by decide) (fun c50 => ?_) (fun c50 => ?_)
            · have h := ite_f c50 h
              refine lv_iconst (v := (2 : Int32)) hx hb dX10_compare_148 (by decide) ?_
              exact JN_149 _ _ _ _ _ _ _ _ _ _ _ _ h (lv_sub hl [1, 2, 3, 4, 5] rfl) hP hD hS
            have h := ite_t c50 h
            refine lv_iconst (v := (1 : Int32)) hx hb dX10_compare_144 (by decide) ?_
            refine lv_goto (tgt := 149) hx hb dX10_compare_145 (by decide) ?_
            exact JN_149 _ _ _ _ _ _ _ _ _ _ _ _ h (lv_sub hl [1, 2, 3, 4, 5] rfl) hP hD hS
          have h := ite_f c47 h
          refine lv_iconst (v := (0 : Int32)) hx hb dX10_compare_130 (by decide) ?_
          refine lv_goto (tgt := 149) hx hb dX10_compare_131 (by decide) ?_
          exact JN_149 _ _ _ _ _ _ _ _ _ _ _ _ h (lv_sub hl [1, 2, 3, 4, 5] rfl) hP hD hS
        have h := ite_t c44 h
        refine lv_goto (tgt := 181) hx hb dX10_compare_117 (by decide) ?_
        obtain ⟨z51, ez51⟩ : ∃ y : Int32, y = (v4 + (1 : Int32)) := ⟨_, rfl⟩
        have h := nm_at ez51 h
        refine lv_iinc (v := z51) (lv' := [(4, .int z51), (5, .long r37), (0, .ref h_this), (1, .int v1), (2, .int v2), (3, .int v3)]) hx hb dX10_compare_181 hl (k := 5) rfl (by rw [ez51]; rfl) (by decide) rfl (fun ls hl => ?_)
        refine lv_goto (tgt := 64) hx hb dX10_compare_184 (by decide) ?_
        exact ih_64 _ _ _ _ _ _ _ _ _ _ _ h (lv_sub hl [2, 3, 4, 5, 0] rfl) hP hD hS
      have h := ite_t c36 h
      refine lv_goto (tgt := 181) hx hb dX10_compare_90 (by decide) ?_
      obtain ⟨z52, ez52⟩ : ∃ y : Int32, y = (v4 + (1 : Int32)) := ⟨_, rfl⟩
      have h := nm_at ez52 h
      refine lv_iinc (v := z52) (lv' := [(4, .int z52), (0, .ref h_this), (1, .int v1), (2, .int v2), (3, .int v3)]) hx hb dX10_compare_181 hl (k := 4) rfl (by rw [ez52]; rfl) (by decide) rfl (fun ls hl => ?_)
      refine lv_goto (tgt := 64) hx hb dX10_compare_184 (by decide) ?_
      exact ih_64 _ _ _ _ _ _ _ _ _ _ _ h (lv_sub hl [1, 2, 3, 4, 0] rfl) hP hD hS
  have LP_31 : ∀ n_31 : Nat, ∀ (v1 : Int32) (v2 : Int32) (v3 : Int32) (v4 : Int32) (i_this : Nat → Int32) (f_this_row : Nat → Int64) (f_this_many : Nat → Int32) (f_this_first : Nat → Int32) (ls : Array Slot) (H : Heap) (locs : List Loc), fX10_compare_l31 N j_this f_this_spans n_31 v1 v2 v3 v4 i_this f_this_row f_this_many f_this_first = some (r, o_i_this, o_f_this_row, o_f_this_many, o_f_this_first) → lv_has ls 8 [(0, .ref h_this), (1, .int v1), (2, .int v2), (3, .int v3), (4, .int v4)] → va_P (dC, dI) vwCl [cl_X10 h_this h_this_dayAt h_this_secondAt h_this_spans h_this_kept h_this_text h_this_row h_this_read h_this_many h_this_first h_this_lengths h_this_page i_this j_this, (h_this_spans, .inl (cI, 24, .inl f_this_spans)), (h_this_row, .inl (cJ, 16, .inr (.inl f_this_row))), (h_this_many, .inl (cI, 3, .inl f_this_many)), (h_this_first, .inl (cI, 3, .inl f_this_first))] H → va_D A [cl_X10 h_this h_this_dayAt h_this_secondAt h_this_spans h_this_kept h_this_text h_this_row h_this_read h_this_many h_this_first h_this_lengths h_this_page i_this j_this, (h_this_spans, .inl (cI, 24, .inl f_this_spans)), (h_this_row, .inl (cJ, 16, .inr (.inl f_this_row))), (h_this_many, .inl (cI, 3, .inl f_this_many)), (h_this_first, .inl (cI, 3, .inl f_this_first))] → va_S A s.heap H locs → W p l e (kR 6 150) s m args below meth c H locs 0 0 Q (F0 m 31 ls []) := by
    intro n_31
    induction n_31 with
    | zero =>
      intro v1 v2 v3 v4 i_this f_this_row f_this_many f_this_first ls H locs h hl hP hD hS
      rw [fX10_compare_l31_0] at h; cases h
    | succ n_31 ih_31 =>
      intro v1 v2 v3 v4 i_this f_this_row f_this_many f_this_first ls H locs h hl hP hD hS
      rw [fX10_compare_l31_s] at h
      refine lv_iload hx hb dX10_compare_31 (lv_at hl 4 rfl) ?_
      refine lv_iconst (v := (3 : Int32)) hx hb dX10_compare_33 (by decide) ?_
      refine lv_icmp_ge (tgt := 59) hx hb dX10_compare_34 (by decide) (fun c53 => ?_) (fun c53 => ?_)
      · have h := ite_t c53 h
        refine lv_ldcw (v := (730119 : Int32)) hx hb hown (hts _ (kq q_1373 rfl)) dX10_compare_59 ?_
        refine lv_istore (lv' := [(4, .int (730119 : Int32)), (0, .ref h_this), (1, .int v1), (2, .int v2), (3, .int v3)]) hx hb dX10_compare_62 hl (by decide) rfl (fun ls hl => ?_)
        exact LP_64 N _ _ _ _ _ _ _ _ _ _ _ h (lv_sub hl [1, 2, 3, 4, 0] rfl) hP hD hS
      have h := ite_f c53 h
      refine lv_aload_n hx hb dX10_compare_37 rfl (lv_at hl 0 rfl) ?_
      refine va_get (D := (dC, dI)) (ci := 9) (v := .ref h_this_many) (C := RX10) (T := TX10) (N := 29) hx hb hts inX10 hown hK hP 0 rfl rfl 21 (by decide) (hts _ (kq q_1007 rfl)) (fun _ h9 => h9) rfl dX10_compare_38 ?_
      refine lv_iload hx hb dX10_compare_41 (lv_at hl 4 rfl) ?_
      refine lv_iconst (v := (0 : Int32)) hx hb dX10_compare_43 (by decide) ?_
      obtain ⟨hi54, h⟩ := gi_at h
      refine va_iast hx hb hK hP hD hS 3 0 rfl rfl hi54 dX10_compare_44 (fun H locs hP hD hS => ?_)
      have hP : va_P (dC, dI) vwCl [cl_X10 h_this h_this_dayAt h_this_secondAt h_this_spans h_this_kept h_this_text h_this_row h_this_read h_this_many h_this_first h_this_lengths h_this_page i_this j_this, (h_this_spans, .inl (cI, 24, .inl f_this_spans)), (h_this_row, .inl (cJ, 16, .inr (.inl f_this_row))), (h_this_many, .inl (cI, 3, .inl (upd f_this_many v4.toNatClampNeg (0 : Int32)))), (h_this_first, .inl (cI, 3, .inl f_this_first))] H := hP
      have hD : va_D A [cl_X10 h_this h_this_dayAt h_this_secondAt h_this_spans h_this_kept h_this_text h_this_row h_this_read h_this_many h_this_first h_this_lengths h_this_page i_this j_this, (h_this_spans, .inl (cI, 24, .inl f_this_spans)), (h_this_row, .inl (cJ, 16, .inr (.inl f_this_row))), (h_this_many, .inl (cI, 3, .inl (upd f_this_many v4.toNatClampNeg (0 : Int32)))), (h_this_first, .inl (cI, 3, .inl f_this_first))] := hD
      refine lv_aload_n hx hb dX10_compare_45 rfl (lv_at hl 0 rfl) ?_
      refine va_get (D := (dC, dI)) (ci := 9) (v := .ref h_this_first) (C := RX10) (T := TX10) (N := 29) hx hb hts inX10 hown hK hP 0 rfl rfl 22 (by decide) (hts _ (kq q_1008 rfl)) (fun _ h9 => h9) rfl dX10_compare_46 ?_
      refine lv_iload hx hb dX10_compare_49 (lv_at hl 4 rfl) ?_
      refine lv_iconst (v := (-1 : Int32)) hx hb dX10_compare_51 (by decide) ?_
      obtain ⟨hi55, h⟩ := gi_at h
      refine va_iast hx hb hK hP hD hS 4 0 rfl rfl hi55 dX10_compare_52 (fun H locs hP hD hS => ?_)
      have hP : va_P (dC, dI) vwCl [cl_X10 h_this h_this_dayAt h_this_secondAt h_this_spans h_this_kept h_this_text h_this_row h_this_read h_this_many h_this_first h_this_lengths h_this_page i_this j_this, (h_this_spans, .inl (cI, 24, .inl f_this_spans)), (h_this_row, .inl (cJ, 16, .inr (.inl f_this_row))), (h_this_many, .inl (cI, 3, .inl (upd f_this_many v4.toNatClampNeg (0 : Int32)))), (h_this_first, .inl (cI, 3, .inl (upd f_this_first v4.toNatClampNeg (-1 : Int32))))] H := hP
      have hD : va_D A [cl_X10 h_this h_this_dayAt h_this_secondAt h_this_spans h_this_kept h_this_text h_this_row h_this_read h_this_many h_this_first h_this_lengths h_this_page i_this j_this, (h_this_spans, .inl (cI, 24, .inl f_this_spans)), (h_this_row, .inl (cJ, 16, .inr (.inl f_this_row))), (h_this_many, .inl (cI, 3, .inl (upd f_this_many v4.toNatClampNeg (0 : Int32)))), (h_this_first, .inl (cI, 3, .inl (upd f_this_first v4.toNatClampNeg (-1 : Int32))))] := hD
      obtain ⟨z56, ez56⟩ : ∃ y : Int32, y = (v4 + (1 : Int32)) := ⟨_, rfl⟩
      have h := nm_at ez56 h
      refine lv_iinc (v := z56) (lv' := [(4, .int z56), (0, .ref h_this), (1, .int v1), (2, .int v2), (3, .int v3)]) hx hb dX10_compare_53 hl (k := 4) rfl (by rw [ez56]; rfl) (by decide) rfl (fun ls hl => ?_)
      refine lv_goto (tgt := 31) hx hb dX10_compare_56 (by decide) ?_
      exact ih_31 _ _ _ _ _ _ _ _ _ _ _ h (lv_sub hl [1, 2, 3, 4, 0] rfl) hP hD hS
  have h := hf
  unfold fX10_compare at h
  refine lv_aload_n hx hb dX10_compare_0 rfl (lv_at hl 0 rfl) ?_
  refine lv_iconst (v := (0 : Int32)) hx hb dX10_compare_1 (by decide) ?_
  refine va_put (D := (dC, dI)) (ci := 9) (v := .int (0 : Int32)) (ty := .int) (C := RX10) (T := TX10) (N := 29) hx hb hts inX10 tyX10 tyX10_ok nmX10 hown hK hP hD hS 0 rfl rfl 9 (by decide) (hts _ (kq q_995 rfl)) (fun _ h9 => h9) rfl (by decide +kernel) rfl rfl (Nat.le_of_ble_eq_true rfl) dX10_compare_2 (fun H locs hP hD hS => ?_)
  have hP : va_P (dC, dI) vwCl [(h_this, .inr (9, [.ref h_this_dayAt, .ref h_this_secondAt, .ref h_this_spans, .ref h_this_kept, .int (i_this 4), .ref h_this_text, .int (i_this 6), .ref h_this_row, .int (i_this 8), .int (0 : Int32), .int (i_this 10), .int (i_this 11), .int (i_this 12), .int (i_this 13), .int (i_this 14), .int (i_this 15), .int (i_this 16), .int (i_this 17), .int (i_this 18), .ref h_this_read, .long (j_this 20), .ref h_this_many, .ref h_this_first, .ref h_this_lengths, .int (i_this 24), .long (j_this 25), .long (j_this 26), .ref h_this_page, .int (i_this 28)])), (h_this_spans, .inl (cI, 24, .inl f_this_spans)), (h_this_row, .inl (cJ, 16, .inr (.inl f_this_row))), (h_this_many, .inl (cI, 3, .inl f_this_many)), (h_this_first, .inl (cI, 3, .inl f_this_first))] H := hP
  have hD : va_D A [(h_this, .inr (9, [.ref h_this_dayAt, .ref h_this_secondAt, .ref h_this_spans, .ref h_this_kept, .int (i_this 4), .ref h_this_text, .int (i_this 6), .ref h_this_row, .int (i_this 8), .int (0 : Int32), .int (i_this 10), .int (i_this 11), .int (i_this 12), .int (i_this 13), .int (i_this 14), .int (i_this 15), .int (i_this 16), .int (i_this 17), .int (i_this 18), .ref h_this_read, .long (j_this 20), .ref h_this_many, .ref h_this_first, .ref h_this_lengths, .int (i_this 24), .long (j_this 25), .long (j_this 26), .ref h_this_page, .int (i_this 28)])), (h_this_spans, .inl (cI, 24, .inl f_this_spans)), (h_this_row, .inl (cJ, 16, .inr (.inl f_this_row))), (h_this_many, .inl (cI, 3, .inl f_this_many)), (h_this_first, .inl (cI, 3, .inl f_this_first))] := hD
  refine lv_iload_n hx hb dX10_compare_5 rfl (lv_at hl 1 rfl) ?_
  have hP : va_P (dC, dI) vwCl [cl_X10 h_this h_this_dayAt h_this_secondAt h_this_spans h_this_kept h_this_text h_this_row h_this_read h_this_many h_this_first h_this_lengths h_this_page (upd i_this 9 (0 : Int32)) j_this, (h_this_spans, .inl (cI, 24, .inl f_this_spans)), (h_this_row, .inl (cJ, 16, .inr (.inl f_this_row))), (h_this_many, .inl (cI, 3, .inl f_this_many)), (h_this_first, .inl (cI, 3, .inl f_this_first))] H := hP
  have hD : va_D A [cl_X10 h_this h_this_dayAt h_this_secondAt h_this_spans h_this_kept h_this_text h_this_row h_this_read h_this_many h_this_first h_this_lengths h_this_page (upd i_this 9 (0 : Int32)) j_this, (h_this_spans, .inl (cI, 24, .inl f_this_spans)), (h_this_row, .inl (cJ, 16, .inr (.inl f_this_row))), (h_this_many, .inl (cI, 3, .inl f_this_many)), (h_this_first, .inl (cI, 3, .inl f_this_first))] := hD
  obtain ⟨r57, hc58, h⟩ := bd1_at h
  refine kjSI (kS0 (own := "DateSpansModel") (As := [.int p1]) (rest := []) ⟨hx, hb, hml, hown, hts⟩ (kX10_isSlot l N p1 r57 hc58) (kgS (kq q_1123 rfl) (kq q_1124 rfl) (kq q_66 rfl) (kq q_1125 rfl)) yd_X10_isSlot ⟨Nat.le_of_ble_eq_true rfl, Nat.le_of_ble_eq_true rfl⟩ rfl rfl hl.1 rfl (lv_room (Nat.le_of_ble_eq_true rfl)) dX10_compare_6) ?_
  refine lv_if_eq (tgt := 26) hx hb dX10_compare_9 (by decide) (fun c59 => ?_) (fun c59 => ?_)
  · have h := ite_t c59 h
    refine lv_iconst (v := (-1 : Int32)) hx hb dX10_compare_26 (by decide) ?_
    obtain ⟨rfl, rfl, rfl, rfl, rfl⟩ := pj5 h
    exact hEnd _ _ _ _ hP hS dX10_compare_27 rfl
  have h := ite_f c59 h
  refine lv_iload_n hx hb dX10_compare_12 rfl (lv_at hl 2 rfl) ?_
  obtain ⟨r60, hc61, h⟩ := bd1_at h
  refine kjSI (kS0 (own := "DateSpansModel") (As := [.int p2]) (rest := []) ⟨hx, hb, hml, hown, hts⟩ (kX10_isSlot l N p2 r60 hc61) (kgS (kq q_1123 rfl) (kq q_1124 rfl) (kq q_66 rfl) (kq q_1125 rfl)) yd_X10_isSlot ⟨Nat.le_of_ble_eq_true rfl, Nat.le_of_ble_eq_true rfl⟩ rfl rfl hl.1 rfl (lv_room (Nat.le_of_ble_eq_true rfl)) dX10_compare_13) ?_
  refine lv_if_eq (tgt := 26) hx hb dX10_compare_16 (by decide) (fun c62 => ?_) (fun c62 => ?_)
  · have h := ite_t c62 h
    refine lv_iconst (v := (-1 : Int32)) hx hb dX10_compare_26 (by decide) ?_
    obtain ⟨rfl, rfl, rfl, rfl, rfl⟩ := pj5 h
    exact hEnd _ _ _ _ hP hS dX10_compare_27 rfl
  have h := ite_f c62 h
  refine lv_iload_n hx hb dX10_compare_19 rfl (lv_at hl 3 rfl) ?_
  obtain ⟨r63, hc64, h⟩ := bd1_at h
  refine kjSI (kS0 (own := "DateSpansModel") (As := [.int p3]) (rest := []) ⟨hx, hb, hml, hown, hts⟩ (kX10_isLaw l N p3 r63 hc64) (kgS (kq q_1275 rfl) (kq q_1276 rfl) (kq q_66 rfl) (kq q_1277 rfl)) yd_X10_isLaw ⟨Nat.le_of_ble_eq_true rfl, Nat.le_of_ble_eq_true rfl⟩ rfl rfl hl.1 rfl (lv_room (Nat.le_of_ble_eq_true rfl)) dX10_compare_20) ?_
  refine lv_if_ne (tgt := 28) hx hb dX10_compare_23 (by decide) (fun c65 => ?_) (fun c65 => ?_)
  · have h := ite_f c65 h
    refine lv_iconst (v := (0 : Int32)) hx hb dX10_compare_28 (by decide) ?_
    refine lv_istore (lv' := [(4, .int (0 : Int32)), (0, .ref h_this), (1, .int p1), (2, .int p2), (3, .int p3)]) hx hb dX10_compare_29 hl (by decide) rfl (fun ls hl => ?_)
    exact LP_31 N _ _ _ _ _ _ _ _ _ _ _ h (lv_sub hl [1, 2, 3, 4, 0] rfl) hP hD hS
  have h := ite_t c65 h
  refine lv_iconst (v := (-1 : Int32)) hx hb dX10_compare_26 (by decide) ?_
  obtain ⟨rfl, rfl, rfl, rfl, rfl⟩ := pj5 h
  exact hEnd _ _ _ _ hP hS dX10_compare_27 rfl
noncomputable def fX10_seesLength_l2 (N : Nat) (j_this : Nat → Int64) (n : Nat) : Int64 → Int32 → (Nat → Int32) → (Nat → Int64) → Option ((Nat → Int32) × (Nat → Int64)) := Nat.rec (motive := fun _ => Int64 → Int32 → (Nat → Int32) → (Nat → Int64) → Option ((Nat → Int32) × (Nat → Int64))) (fun _ _ _ _ => none) (fun _ K_2 v1 v3 i_this f_this_lengths => (if (i_this 24) ≤ v3 then (gi (i_this 24) 128 (some ((upd i_this 24 ((i_this 24) + (1 : Int32))), (vp_updL f_this_lengths (i_this 24).toNatClampNeg v1)))) else (gi v3 128 (if (lg_cmp (f_this_lengths v3.toNatClampNeg) v1) = (0 : Int32) then (some (i_this, f_this_lengths)) else (nm (v3 + (1 : Int32)) fun z5 => (K_2 v1 z5 i_this f_this_lengths)))))) n
theorem fX10_seesLength_l2_s (N : Nat) (j_this : Nat → Int64) (n : Nat) (v1 : Int64) (v3 : Int32) (i_this : Nat → Int32) (f_this_lengths : Nat → Int64) : fX10_seesLength_l2 N j_this (n + 1) v1 v3 i_this f_this_lengths = (if (i_this 24) ≤ v3 then (gi (i_this 24) 128 (some ((upd i_this 24 ((i_this 24) + (1 : Int32))), (vp_updL f_this_lengths (i_this 24).toNatClampNeg v1)))) else (gi v3 128 (if (lg_cmp (f_this_lengths v3.toNatClampNeg) v1) = (0 : Int32) then (some (i_this, f_this_lengths)) else (nm (v3 + (1 : Int32)) fun z5 => ((fX10_seesLength_l2 N j_this n) v1 z5 i_this f_this_lengths))))) := rfl
theorem fX10_seesLength_l2_0 (N : Nat) (j_this : Nat → Int64) (v1 : Int64) (v3 : Int32) (i_this : Nat → Int32) (f_this_lengths : Nat → Int64) : fX10_seesLength_l2 N j_this 0 v1 v3 i_this f_this_lengths = none := rfl
noncomputable def fX10_seesLength (N : Nat) (p1 : Int64) (i_this : Nat → Int32) (j_this : Nat → Int64) (f_this_lengths : Nat → Int64) : Option ((Nat → Int32) × (Nat → Int64)) := (fX10_seesLength_l2 N j_this N p1 (0 : Int32) i_this f_this_lengths)
set_option maxHeartbeats 4000000 in
set_option maxRecDepth 100000 in
theorem kX10_seesLength (l : Launch) (dC : Nat → ClassId) (dI : Nat → Nat → Nat) (cI cJ cB : ClassId) (h_this h_this_dayAt h_this_secondAt h_this_spans h_this_kept h_this_text h_this_row h_this_read h_this_many h_this_first h_this_lengths h_this_page : Nat) (N : Nat) (p1 : Int64) (i_this : Nat → Int32) (j_this : Nat → Int64) (f_this_lengths : Nat → Int64) (o_i_this : Nat → Int32) (o_f_this_lengths : Nat → Int64) (hf : fX10_seesLength N p1 i_this j_this f_this_lengths = some (o_i_this, o_f_this_lengths)) : MV l yX10_seesLength (kws yX10_seesLength cX10_seesLength 4 (none)) (kR 0 0) (dC, dI) (kT cI cJ cB) [.ref h_this, .long p1] [cl_X10 h_this h_this_dayAt h_this_secondAt h_this_spans h_this_kept h_this_text h_this_row h_this_read h_this_many h_this_first h_this_lengths h_this_page i_this j_this, (h_this_lengths, .inl (cJ, 128, .inr (.inl f_this_lengths)))] [cl_X10 h_this h_this_dayAt h_this_secondAt h_this_spans h_this_kept h_this_text h_this_row h_this_read h_this_many h_this_first h_this_lengths h_this_page o_i_this j_this, (h_this_lengths, .inl (cJ, 128, .inr (.inl o_f_this_lengths)))] := by
  refine MV.of (cc := cX10_seesLength) (maxL := 4) (by decide) (Nat.le_of_ble_eq_true rfl) (fun p e s m args below meth c A Q ls KC hN hK hP hD hA hl hEnd => ?_)
  obtain ⟨hx, hb, hml, hown, hts⟩ := KC
  have hown : s.vm.findClass "DateSpansModel" = some m.cls := hown
  have hl : lv_has ls 4 [(0, .ref h_this), (1, .long p1)] := hl
  have hS : va_S A s.heap s.heap [] := va_S.rf
  have LP_2 : ∀ n_2 : Nat, ∀ (v1 : Int64) (v3 : Int32) (i_this : Nat → Int32) (f_this_lengths : Nat → Int64) (ls : Array Slot) (H : Heap) (locs : List Loc), fX10_seesLength_l2 N j_this n_2 v1 v3 i_this f_this_lengths = some (o_i_this, o_f_this_lengths) → lv_has ls 4 [(0, .ref h_this), (1, .long v1), (3, .int v3)] → va_P (dC, dI) vwCl [cl_X10 h_this h_this_dayAt h_this_secondAt h_this_spans h_this_kept h_this_text h_this_row h_this_read h_this_many h_this_first h_this_lengths h_this_page i_this j_this, (h_this_lengths, .inl (cJ, 128, .inr (.inl f_this_lengths)))] H → va_D A [cl_X10 h_this h_this_dayAt h_this_secondAt h_this_spans h_this_kept h_this_text h_this_row h_this_read h_this_many h_this_first h_this_lengths h_this_page i_this j_this, (h_this_lengths, .inl (cJ, 128, .inr (.inl f_this_lengths)))] → va_S A s.heap H locs → W p l e (kR 0 0) s m args below meth c H locs 0 0 Q (F0 m 2 ls []) := by
    intro n_2
    induction n_2 with
    | zero =>
      intro v1 v3 i_this f_this_lengths ls H locs h hl hP hD hS
      rw [fX10_seesLength_l2_0] at h; cases h
    | succ n_2 ih_2 =>
      intro v1 v3 i_this f_this_lengths ls H locs h hl hP hD hS
      rw [fX10_seesLength_l2_s] at h
      refine lv_iload_n hx hb dX10_seesLength_2 rfl (lv_at hl 2 rfl) ?_
      refine lv_aload_n hx hb dX10_seesLength_3 rfl (lv_at hl 0 rfl) ?_
      refine va_get (D := (dC, dI)) (ci := 9) (v := .int (i_this 24)) (C := RX10) (T := TX10) (N := 29) hx hb hts inX10 hown hK hP 0 rfl rfl 24 (by decide) (hts _ (kq q_1010 rfl)) (fun _ h9 => h9) rfl dX10_seesLength_4 ?_
      refine lv_icmp_ge (tgt := 28) hx hb dX10_seesLength_7 (by decide) (fun c1 => ?_) (fun c1 => ?_)
      · have h := ite_t c1 h
        refine lv_aload_n hx hb dX10_seesLength_28 rfl (lv_at hl 0 rfl) ?_
        refine va_get (D := (dC, dI)) (ci := 9) (v := .ref h_this_lengths) (C := RX10) (T := TX10) (N := 29) hx hb hts inX10 hown hK hP 0 rfl rfl 23 (by decide) (hts _ (kq q_1009 rfl)) (fun _ h9 => h9) rfl dX10_seesLength_29 ?_
        refine lv_aload_n hx hb dX10_seesLength_32 rfl (lv_at hl 0 rfl) ?_
        refine va_get (D := (dC, dI)) (ci := 9) (v := .int (i_this 24)) (C := RX10) (T := TX10) (N := 29) hx hb hts inX10 hown hK hP 0 rfl rfl 24 (by decide) (hts _ (kq q_1010 rfl)) (fun _ h9 => h9) rfl dX10_seesLength_33 ?_
        refine lv_lload_n hx hb dX10_seesLength_36 rfl (lv_at hl 1 rfl) ?_
        obtain ⟨hi2, h⟩ := gi_at h
        refine va_last hx hb hK hP hD hS 1 1 rfl rfl hi2 dX10_seesLength_37 (fun H locs hP hD hS => ?_)
        have hP : va_P (dC, dI) vwCl [cl_X10 h_this h_this_dayAt h_this_secondAt h_this_spans h_this_kept h_this_text h_this_row h_this_read h_this_many h_this_first h_this_lengths h_this_page i_this j_this, (h_this_lengths, .inl (cJ, 128, .inr (.inl (vp_updL f_this_lengths (i_this 24).toNatClampNeg v1))))] H := hP
        have hD : va_D A [cl_X10 h_this h_this_dayAt h_this_secondAt h_this_spans h_this_kept h_this_text h_this_row h_this_read h_this_many h_this_first h_this_lengths h_this_page i_this j_this, (h_this_lengths, .inl (cJ, 128, .inr (.inl (vp_updL f_this_lengths (i_this 24).toNatClampNeg v1))))] := hD
        refine lv_aload_n hx hb dX10_seesLength_38 rfl (lv_at hl 0 rfl) ?_
        refine lv_dup hx hb dX10_seesLength_39 rfl ?_
        refine va_get (D := (dC, dI)) (ci := 9) (v := .int (i_this 24)) (C := RX10) (T := TX10) (N := 29) hx hb hts inX10 hown hK hP 0 rfl rfl 24 (by decide) (hts _ (kq q_1010 rfl)) (fun _ h9 => h9) rfl dX10_seesLength_40 ?_
        refine lv_iconst (v := (1 : Int32)) hx hb dX10_seesLength_43 (by decide) ?_
        refine lv_iadd hx hb dX10_seesLength_44 ?_
        refine va_put (D := (dC, dI)) (ci := 9) (v := .int ((i_this 24) + (1 : Int32))) (ty := .int) (C := RX10) (T := TX10) (N := 29) hx hb hts inX10 tyX10 tyX10_ok nmX10 hown hK hP hD hS 0 rfl rfl 24 (by decide) (hts _ (kq q_1010 rfl)) (fun _ h9 => h9) rfl (by decide +kernel) rfl rfl (Nat.le_of_ble_eq_true rfl) dX10_seesLength_45 (fun H locs hP hD hS => ?_)
        have hP : va_P (dC, dI) vwCl [(h_this, .inr (9, [.ref h_this_dayAt, .ref h_this_secondAt, .ref h_this_spans, .ref h_this_kept, .int (i_this 4), .ref h_this_text, .int (i_this 6), .ref h_this_row, .int (i_this 8), .int (i_this 9), .int (i_this 10), .int (i_this 11), .int (i_this 12), .int (i_this 13), .int (i_this 14), .int (i_this 15), .int (i_this 16), .int (i_this 17), .int (i_this 18), .ref h_this_read, .long (j_this 20), .ref h_this_many, .ref h_this_first, .ref h_this_lengths, .int ((i_this 24) + (1 : Int32)), .long (j_this 25), .long (j_this 26), .ref h_this_page, .int (i_this 28)])), (h_this_lengths, .inl (cJ, 128, .inr (.inl (vp_updL f_this_lengths (i_this 24).toNatClampNeg v1))))] H := hP
        have hD : va_D A [(h_this, .inr (9, [.ref h_this_dayAt, .ref h_this_secondAt, .ref h_this_spans, .ref h_this_kept, .int (i_this 4), .ref h_this_text, .int (i_this 6), .ref h_this_row, .int (i_this 8), .int (i_this 9), .int (i_this 10), .int (i_this 11), .int (i_this 12), .int (i_this 13), .int (i_this 14), .int (i_this 15), .int (i_this 16), .int (i_this 17), .int (i_this 18), .ref h_this_read, .long (j_this 20), .ref h_this_many, .ref h_this_first, .ref h_this_lengths, .int ((i_this 24) + (1 : Int32)), .long (j_this 25), .long (j_this 26), .ref h_this_page, .int (i_this 28)])), (h_this_lengths, .inl (cJ, 128, .inr (.inl (vp_updL f_this_lengths (i_this 24).toNatClampNeg v1))))] := hD
        have hP : va_P (dC, dI) vwCl [cl_X10 h_this h_this_dayAt h_this_secondAt h_this_spans h_this_kept h_this_text h_this_row h_this_read h_this_many h_this_first h_this_lengths h_this_page (upd i_this 24 ((i_this 24) + (1 : Int32))) j_this, (h_this_lengths, .inl (cJ, 128, .inr (.inl (vp_updL f_this_lengths (i_this 24).toNatClampNeg v1))))] H := hP
        have hD : va_D A [cl_X10 h_this h_this_dayAt h_this_secondAt h_this_spans h_this_kept h_this_text h_this_row h_this_read h_this_many h_this_first h_this_lengths h_this_page (upd i_this 24 ((i_this 24) + (1 : Int32))) j_this, (h_this_lengths, .inl (cJ, 128, .inr (.inl (vp_updL f_this_lengths (i_this 24).toNatClampNeg v1))))] := hD
        obtain ⟨rfl, rfl⟩ := pj2 h
        exact hEnd _ _ _ _ hP hS dX10_seesLength_48
      have h := ite_f c1 h
      refine lv_aload_n hx hb dX10_seesLength_10 rfl (lv_at hl 0 rfl) ?_
      refine va_get (D := (dC, dI)) (ci := 9) (v := .ref h_this_lengths) (C := RX10) (T := TX10) (N := 29) hx hb hts inX10 hown hK hP 0 rfl rfl 23 (by decide) (hts _ (kq q_1009 rfl)) (fun _ h9 => h9) rfl dX10_seesLength_11 ?_
      refine lv_iload_n hx hb dX10_seesLength_14 rfl (lv_at hl 2 rfl) ?_
      obtain ⟨hi3, h⟩ := gi_at h
      refine va_lald hx hb hK hP 1 1 rfl rfl hi3 dX10_seesLength_15 ?_
      refine lv_lload_n hx hb dX10_seesLength_16 rfl (lv_at hl 1 rfl) ?_
      refine W.lcmp hx hb dX10_seesLength_17 ?_
      refine lv_if_ne (tgt := 22) hx hb dX10_seesLength_18 (by decide) (fun c4 => ?_) (fun c4 => ?_)
      · have h := ite_f c4 h
        obtain ⟨z5, ez5⟩ : ∃ y : Int32, y = (v3 + (1 : Int32)) := ⟨_, rfl⟩
        have h := nm_at ez5 h
        refine lv_iinc (v := z5) (lv' := [(3, .int z5), (0, .ref h_this), (1, .long v1)]) hx hb dX10_seesLength_22 hl (k := 2) rfl (by rw [ez5]; rfl) (by decide) rfl (fun ls hl => ?_)
        refine lv_goto (tgt := 2) hx hb dX10_seesLength_25 (by decide) ?_
        exact ih_2 _ _ _ _ _ _ _ h (lv_sub hl [1, 2, 0] rfl) hP hD hS
      have h := ite_t c4 h
      obtain ⟨rfl, rfl⟩ := pj2 h
      exact hEnd _ _ _ _ hP hS dX10_seesLength_21
  have h := hf
  unfold fX10_seesLength at h
  refine lv_iconst (v := (0 : Int32)) hx hb dX10_seesLength_0 (by decide) ?_
  refine lv_istore_n (lv' := [(3, .int (0 : Int32)), (0, .ref h_this), (1, .long p1)]) hx hb dX10_seesLength_1 rfl hl (by decide) rfl (fun ls hl => ?_)
  exact LP_2 N _ _ _ _ _ _ _ h (lv_sub hl [1, 2, 0] rfl) hP hD hS
noncomputable def fX10_lasts_j113 (N : Nat) (j_this : Nat → Int64) (f_this_spans : Nat → Int32) (K_44 : Int32 → Int32 → Int64 → Int64 → Int32 → Int32 → Int32 → (Nat → Int32) → (Nat → Int64) → (Nat → Int64) → Option (Int64 × (Nat → Int32) × (Nat → Int64) × (Nat → Int64))) (v1 : Int32) (v2 : Int32) (v3 : Int64) (v5 : Int64) (v7 : Int32) (v8 : Int32) (v9 : Int32) (v10 : Int64) (i_this : Nat → Int32) (f_this_row : Nat → Int64) (f_this_lengths : Nat → Int64) : Option (Int64 × (Nat → Int32) × (Nat → Int64) × (Nat → Int64)) := (if v8 = (-1 : Int32) then (nm (v9 + (1 : Int32)) fun z2 => (K_44 v1 v2 v3 v10 v7 v9 z2 i_this f_this_row f_this_lengths)) else (if (lg_cmp v10 v5) ≤ (0 : Int32) then (nm (v9 + (1 : Int32)) fun z4 => (K_44 v1 v2 v3 v5 v7 v8 z4 i_this f_this_row f_this_lengths)) else (nm (v9 + (1 : Int32)) fun z5 => (K_44 v1 v2 v3 v10 v7 v9 z5 i_this f_this_row f_this_lengths))))
noncomputable def fX10_lasts_l44 (N : Nat) (j_this : Nat → Int64) (f_this_spans : Nat → Int32) (n : Nat) : Int32 → Int32 → Int64 → Int64 → Int32 → Int32 → Int32 → (Nat → Int32) → (Nat → Int64) → (Nat → Int64) → Option (Int64 × (Nat → Int32) × (Nat → Int64) × (Nat → Int64)) := Nat.rec (motive := fun _ => Int32 → Int32 → Int64 → Int64 → Int32 → Int32 → Int32 → (Nat → Int32) → (Nat → Int64) → (Nat → Int64) → Option (Int64 × (Nat → Int32) × (Nat → Int64) × (Nat → Int64))) (fun _ _ _ _ _ _ _ _ _ _ => none) (fun _ K_44 v1 v2 v3 v5 v7 v8 v9 i_this f_this_row f_this_lengths => (if (876216 : Int32) ≤ v9 then (if (i_this 24) = (0 : Int32) then (some ((-2 : Int64), i_this, f_this_row, f_this_lengths)) else (bd2 (fX10_tell N v3 (upd i_this 8 (0 : Int32)) j_this f_this_row) fun i_this_8 f_this_row_9 => (bd2 (fX10_tell N v5 i_this_8 j_this f_this_row_9) fun i_this_11 f_this_row_12 => (bd2 (fX10_tell N v7.toInt64 i_this_11 j_this f_this_row_12) fun i_this_14 f_this_row_15 => (bd2 (fX10_tell N v8.toInt64 i_this_14 j_this f_this_row_15) fun i_this_17 f_this_row_18 => (bd2 (fX10_tell N ((i_this_17 24).toInt64) i_this_17 j_this f_this_row_18) fun i_this_20 f_this_row_21 => (some (v3, i_this_20, f_this_row_21, f_this_lengths)))))))) else (bd1 (fX10_stands N v9 (0 : Int32) i_this j_this) fun i_this_23 => (bd2 (fX10_addsSpan N v1 (1 : Int64) v2 (0 : Int32) i_this_23 j_this f_this_spans) fun r25 i_this_26 => (if r25 = (0 : Int32) then (nm (v9 + (1 : Int32)) fun z37 => (K_44 v1 v2 v3 v5 v7 v8 z37 i_this_26 f_this_row f_this_lengths)) else (bd1 (fX10_instant N i_this_26 j_this) fun r29 => (nm (r29 - (v9.toInt64 * (86400 : Int64))) fun z31 => (bd2 (fX10_seesLength N z31 i_this_26 j_this f_this_lengths) fun i_this_32 f_this_lengths_33 => (if v7 = (-1 : Int32) then (fX10_lasts_j113 N j_this f_this_spans K_44 v1 v2 z31 v5 v9 v8 v9 z31 i_this_32 f_this_row f_this_lengths_33) else (if (0 : Int32) ≤ (lg_cmp z31 v3) then (fX10_lasts_j113 N j_this f_this_spans K_44 v1 v2 v3 v5 v7 v8 v9 z31 i_this_32 f_this_row f_this_lengths_33) else (fX10_lasts_j113 N j_this f_this_spans K_44 v1 v2 z31 v5 v9 v8 v9 z31 i_this_32 f_this_row f_this_lengths_33))))))))))) n
theorem fX10_lasts_l44_s (N : Nat) (j_this : Nat → Int64) (f_this_spans : Nat → Int32) (n : Nat) (v1 : Int32) (v2 : Int32) (v3 : Int64) (v5 : Int64) (v7 : Int32) (v8 : Int32) (v9 : Int32) (i_this : Nat → Int32) (f_this_row : Nat → Int64) (f_this_lengths : Nat → Int64) : fX10_lasts_l44 N j_this f_this_spans (n + 1) v1 v2 v3 v5 v7 v8 v9 i_this f_this_row f_this_lengths = (if (876216 : Int32) ≤ v9 then (if (i_this 24) = (0 : Int32) then (some ((-2 : Int64), i_this, f_this_row, f_this_lengths)) else (bd2 (fX10_tell N v3 (upd i_this 8 (0 : Int32)) j_this f_this_row) fun i_this_8 f_this_row_9 => (bd2 (fX10_tell N v5 i_this_8 j_this f_this_row_9) fun i_this_11 f_this_row_12 => (bd2 (fX10_tell N v7.toInt64 i_this_11 j_this f_this_row_12) fun i_this_14 f_this_row_15 => (bd2 (fX10_tell N v8.toInt64 i_this_14 j_this f_this_row_15) fun i_this_17 f_this_row_18 => (bd2 (fX10_tell N ((i_this_17 24).toInt64) i_this_17 j_this f_this_row_18) fun i_this_20 f_this_row_21 => (some (v3, i_this_20, f_this_row_21, f_this_lengths)))))))) else (bd1 (fX10_stands N v9 (0 : Int32) i_this j_this) fun i_this_23 => (bd2 (fX10_addsSpan N v1 (1 : Int64) v2 (0 : Int32) i_this_23 j_this f_this_spans) fun r25 i_this_26 => (if r25 = (0 : Int32) then (nm (v9 + (1 : Int32)) fun z37 => ((fX10_lasts_l44 N j_this f_this_spans n) v1 v2 v3 v5 v7 v8 z37 i_this_26 f_this_row f_this_lengths)) else (bd1 (fX10_instant N i_this_26 j_this) fun r29 => (nm (r29 - (v9.toInt64 * (86400 : Int64))) fun z31 => (bd2 (fX10_seesLength N z31 i_this_26 j_this f_this_lengths) fun i_this_32 f_this_lengths_33 => (if v7 = (-1 : Int32) then (fX10_lasts_j113 N j_this f_this_spans (fX10_lasts_l44 N j_this f_this_spans n) v1 v2 z31 v5 v9 v8 v9 z31 i_this_32 f_this_row f_this_lengths_33) else (if (0 : Int32) ≤ (lg_cmp z31 v3) then (fX10_lasts_j113 N j_this f_this_spans (fX10_lasts_l44 N j_this f_this_spans n) v1 v2 v3 v5 v7 v8 v9 z31 i_this_32 f_this_row f_this_lengths_33) else (fX10_lasts_j113 N j_this f_this_spans (fX10_lasts_l44 N j_this f_this_spans n) v1 v2 z31 v5 v9 v8 v9 z31 i_this_32 f_this_row f_this_lengths_33)))))))))) := rfl
theorem fX10_lasts_l44_0 (N : Nat) (j_this : Nat → Int64) (f_this_spans : Nat → Int32) (v1 : Int32) (v2 : Int32) (v3 : Int64) (v5 : Int64) (v7 : Int32) (v8 : Int32) (v9 : Int32) (i_this : Nat → Int32) (f_this_row : Nat → Int64) (f_this_lengths : Nat → Int64) : fX10_lasts_l44 N j_this f_this_spans 0 v1 v2 v3 v5 v7 v8 v9 i_this f_this_row f_this_lengths = none := rfl
noncomputable def fX10_lasts (N : Nat) (p1 : Int32) (p2 : Int32) (i_this : Nat → Int32) (j_this : Nat → Int64) (f_this_spans : Nat → Int32) (f_this_row : Nat → Int64) (f_this_lengths : Nat → Int64) : Option (Int64 × (Nat → Int32) × (Nat → Int64) × (Nat → Int64)) := (bd1 (fX10_isSlot N p1) fun r38 => (if r38 = (0 : Int32) then (some ((-1 : Int64), (upd i_this 9 (0 : Int32)), f_this_row, f_this_lengths)) else (bd1 (fX10_isLaw N p2) fun r41 => (if r41 = (0 : Int32) then (some ((-1 : Int64), (upd i_this 9 (0 : Int32)), f_this_row, f_this_lengths)) else (fX10_lasts_l44 N j_this f_this_spans N p1 p2 (0 : Int64) (0 : Int64) (-1 : Int32) (-1 : Int32) (730119 : Int32) (upd (upd i_this 9 (0 : Int32)) 24 (0 : Int32)) f_this_row f_this_lengths)))))
set_option maxHeartbeats 4000000 in
set_option maxRecDepth 100000 in
theorem kX10_lasts (l : Launch) (dC : Nat → ClassId) (dI : Nat → Nat → Nat) (cI cJ cB : ClassId) (h_this h_this_dayAt h_this_secondAt h_this_spans h_this_kept h_this_text h_this_row h_this_read h_this_many h_this_first h_this_lengths h_this_page : Nat) (N : Nat) (p1 : Int32) (p2 : Int32) (i_this : Nat → Int32) (j_this : Nat → Int64) (f_this_spans : Nat → Int32) (f_this_row : Nat → Int64) (f_this_lengths : Nat → Int64) (r : Int64) (o_i_this : Nat → Int32) (o_f_this_row : Nat → Int64) (o_f_this_lengths : Nat → Int64) (hf : fX10_lasts N p1 p2 i_this j_this f_this_spans f_this_row f_this_lengths = some (r, o_i_this, o_f_this_row, o_f_this_lengths)) : ML l yX10_lasts (kws yX10_lasts cX10_lasts 12 (some .long)) (kR 6 150) (dC, dI) (kT cI cJ cB) [.ref h_this, .int p1, .int p2] [cl_X10 h_this h_this_dayAt h_this_secondAt h_this_spans h_this_kept h_this_text h_this_row h_this_read h_this_many h_this_first h_this_lengths h_this_page i_this j_this, (h_this_spans, .inl (cI, 24, .inl f_this_spans)), (h_this_row, .inl (cJ, 16, .inr (.inl f_this_row))), (h_this_lengths, .inl (cJ, 128, .inr (.inl f_this_lengths)))] [cl_X10 h_this h_this_dayAt h_this_secondAt h_this_spans h_this_kept h_this_text h_this_row h_this_read h_this_many h_this_first h_this_lengths h_this_page o_i_this j_this, (h_this_spans, .inl (cI, 24, .inl f_this_spans)), (h_this_row, .inl (cJ, 16, .inr (.inl o_f_this_row))), (h_this_lengths, .inl (cJ, 128, .inr (.inl o_f_this_lengths)))] r := by
  refine ML.of (cc := cX10_lasts) (maxL := 12) (by decide) (Nat.le_of_ble_eq_true rfl) (fun p e s m args below meth c A Q ls KC hN hK hP hD hA hl hEnd => ?_)
  obtain ⟨hx, hb, hml, hown, hts⟩ := KC
  have hown : s.vm.findClass "DateSpansModel" = some m.cls := hown
  have hl : lv_has ls 12 [(0, .ref h_this), (1, .int p1), (2, .int p2)] := hl
  have hS : va_S A s.heap s.heap [] := va_S.rf
  have LP_44 : ∀ n_44 : Nat, ∀ (v1 : Int32) (v2 : Int32) (v3 : Int64) (v5 : Int64) (v7 : Int32) (v8 : Int32) (v9 : Int32) (i_this : Nat → Int32) (f_this_row : Nat → Int64) (f_this_lengths : Nat → Int64) (ls : Array Slot) (H : Heap) (locs : List Loc), fX10_lasts_l44 N j_this f_this_spans n_44 v1 v2 v3 v5 v7 v8 v9 i_this f_this_row f_this_lengths = some (r, o_i_this, o_f_this_row, o_f_this_lengths) → lv_has ls 12 [(0, .ref h_this), (1, .int v1), (2, .int v2), (3, .long v3), (5, .long v5), (7, .int v7), (8, .int v8), (9, .int v9)] → va_P (dC, dI) vwCl [cl_X10 h_this h_this_dayAt h_this_secondAt h_this_spans h_this_kept h_this_text h_this_row h_this_read h_this_many h_this_first h_this_lengths h_this_page i_this j_this, (h_this_spans, .inl (cI, 24, .inl f_this_spans)), (h_this_row, .inl (cJ, 16, .inr (.inl f_this_row))), (h_this_lengths, .inl (cJ, 128, .inr (.inl f_this_lengths)))] H → va_D A [cl_X10 h_this h_this_dayAt h_this_secondAt h_this_spans h_this_kept h_this_text h_this_row h_this_read h_this_many h_this_first h_this_lengths h_this_page i_this j_this, (h_this_spans, .inl (cI, 24, .inl f_this_spans)), (h_this_row, .inl (cJ, 16, .inr (.inl f_this_row))), (h_this_lengths, .inl (cJ, 128, .inr (.inl f_this_lengths)))] → va_S A s.heap H locs → W p l e (kR 6 150) s m args below meth c H locs 0 0 Q (F0 m 44 ls []) := by
    intro n_44
    induction n_44 with
    | zero =>
      intro v1 v2 v3 v5 v7 v8 v9 i_this f_this_row f_this_lengths ls H locs h hl hP hD hS
      rw [fX10_lasts_l44_0] at h; cases h
    | succ n_44 ih_44 =>
      have JN_113 : ∀ (v1 : Int32) (v2 : Int32) (v3 : Int64) (v5 : Int64) (v7 : Int32) (v8 : Int32) (v9 : Int32) (v10 : Int64) (i_this : Nat → Int32) (f_this_row : Nat → Int64) (f_this_lengths : Nat → Int64) (ls : Array Slot) (H : Heap) (locs : List Loc), (fX10_lasts_j113 N j_this f_this_spans (fX10_lasts_l44 N j_this f_this_spans n_44)) v1 v2 v3 v5 v7 v8 v9 v10 i_this f_this_row f_this_lengths = some (r, o_i_this, o_f_this_row, o_f_this_lengths) → lv_has ls 12 [(0, .ref h_this), (1, .int v1), (2, .int v2), (3, .long v3), (5, .long v5), (7, .int v7), (8, .int v8), (9, .int v9), (10, .long v10)] → va_P (dC, dI) vwCl [cl_X10 h_this h_this_dayAt h_this_secondAt h_this_spans h_this_kept h_this_text h_this_row h_this_read h_this_many h_this_first h_this_lengths h_this_page i_this j_this, (h_this_spans, .inl (cI, 24, .inl f_this_spans)), (h_this_row, .inl (cJ, 16, .inr (.inl f_this_row))), (h_this_lengths, .inl (cJ, 128, .inr (.inl f_this_lengths)))] H → va_D A [cl_X10 h_this h_this_dayAt h_this_secondAt h_this_spans h_this_kept h_this_text h_this_row h_this_read h_this_many h_this_first h_this_lengths h_this_page i_this j_this, (h_this_spans, .inl (cI, 24, .inl f_this_spans)), (h_this_row, .inl (cJ, 16, .inr (.inl f_this_row))), (h_this_lengths, .inl (cJ, 128, .inr (.inl f_this_lengths)))] → va_S A s.heap H locs → W p l e (kR 6 150) s m args below meth c H locs 0 0 Q (F0 m 113 ls []) := by
        intro v1 v2 v3 v5 v7 v8 v9 v10 i_this f_this_row f_this_lengths ls H locs h hl hP hD hS
        unfold fX10_lasts_j113 at h
        refine lv_iload hx hb dX10_lasts_113 (lv_at hl 6 rfl) ?_
        refine lv_iconst (v := (-1 : Int32)) hx hb dX10_lasts_115 (by decide) ?_
        refine lv_icmp_eq (tgt := 127) hx hb dX10_lasts_116 (by decide) (fun c1 => ?_) (fun c1 => ?_)
        · have h := ite_t c1 h
          refine lv_lload hx hb dX10_lasts_127 (lv_at hl 8 rfl) ?_
          refine lv_lstore (lv' := [(5, .long v10), (0, .ref h_this), (1, .int v1), (2, .int v2), (3, .long v3), (7, .int v7), (8, .int v8), (9, .int v9), (10, .long v10)]) hx hb dX10_lasts_129 hl (by decide) rfl (fun ls hl => ?_)
          refine lv_iload hx hb dX10_lasts_131 (lv_at hl 7 rfl) ?_
          refine lv_istore (lv' := [(8, .int v9), (5, .long v10), (0, .ref h_this), (1, .int v1), (2, .int v2), (3, .long v3), (7, .int v7), (9, .int v9), (10, .long v10)]) hx hb dX10_lasts_133 hl (by decide) rfl (fun ls hl => ?_)
          obtain ⟨z2, ez2⟩ : ∃ y : Int32, y = (v9 + (1 : Int32)) := ⟨_, rfl⟩
          have h := nm_at ez2 h
          refine lv_iinc (v := z2) (lv' := [(9, .int z2), (8, .int v9), (5, .long v10), (0, .ref h_this), (1, .int v1), (2, .int v2), (3, .long v3), (7, .int v7), (10, .long v10)]) hx hb dX10_lasts_135 hl (k := 7) rfl (by rw [ez2]; rfl) (by decide) rfl (fun ls hl => ?_)
          refine lv_goto (tgt := 44) hx hb dX10_lasts_138 (by decide) ?_
          exact ih_44 _ _ _ _ _ _ _ _ _ _ _ _ _ h (lv_sub hl [3, 4, 5, 6, 2, 7, 1, 0] rfl) hP hD hS
        have h := ite_f c1 h
        refine lv_lload hx hb dX10_lasts_119 (lv_at hl 8 rfl) ?_
        refine lv_lload hx hb dX10_lasts_121 (lv_at hl 4 rfl) ?_
        refine W.lcmp hx hb dX10_lasts_123 ?_
        refine lv_if_le (tgt := 135) hx hb dX10_lasts_124 (by decide) (fun c3 => ?_) (fun c3 => ?_)
        · have h := ite_t c3 h
          obtain ⟨z4, ez4⟩ : ∃ y : Int32, y = (v9 + (1 : Int32)) := ⟨_, rfl⟩
          have h := nm_at ez4 h
          refine lv_iinc (v := z4) (lv' := [(9, .int z4), (0, .ref h_this), (1, .int v1), (2, .int v2), (3, .long v3), (5, .long v5), (7, .int v7), (8, .int v8), (10, .long v10)]) hx hb dX10_lasts_135 hl (k := 7) rfl (by rw [ez4]; rfl) (by decide) rfl (fun ls hl => ?_)
          refine lv_goto (tgt := 44) hx hb dX10_lasts_138 (by decide) ?_
          exact ih_44 _ _ _ _ _ _ _ _ _ _ _ _ _ h (lv_sub hl [1, 2, 3, 4, 5, 6, 7, 0] rfl) hP hD hS
        have h := ite_f c3 h
        refine lv_lload hx hb dX10_lasts_127 (lv_at hl 8 rfl) ?_
        refine lv_lstore (lv' := [(5, .long v10), (0, .ref h_this), (1, .int v1), (2, .int v2), (3, .long v3), (7, .int v7), (8, .int v8), (9, .int v9), (10, .long v10)]) hx hb dX10_lasts_129 hl (by decide) rfl (fun ls hl => ?_)
        refine lv_iload hx hb dX10_lasts_131 (lv_at hl 7 rfl) ?_
        refine lv_istore (lv' := [(8, .int v9), (5, .long v10), (0, .ref h_this), (1, .int v1), (2, .int v2), (3, .long v3), (7, .int v7), (9, .int v9), (10, .long v10)]) hx hb dX10_lasts_133 hl (by decide) rfl (fun ls hl => ?_)
        obtain ⟨z5, ez5⟩ : ∃ y : Int32, y = (v9 + (1 : Int32)) := ⟨_, rfl⟩
        have h := nm_at ez5 h
        refine lv_iinc (v := z5) (lv' := [(9, .int z5), (8, .int v9), (5, .long v10), (0, .ref h_this), (1, .int v1), (2, .int v2), (3, .long v3), (7, .int v7), (10, .long v10)]) hx hb dX10_lasts_135 hl (k := 7) rfl (by rw [ez5]; rfl) (by decide) rfl (fun ls hl => ?_)
        refine lv_goto (tgt := 44) hx hb dX10_lasts_138 (by decide) ?_
        exact ih_44 _ _ _ _ _ _ _ _ _ _ _ _ _ h (lv_sub hl [3, 4, 5, 6, 2, 7, 1, 0] rfl) hP hD hS
      intro v1 v2 v3 v5 v7 v8 v9 i_this f_this_row f_this_lengths ls H locs h hl hP hD hS
      rw [fX10_lasts_l44_s] at h
      refine lv_iload hx hb dX10_lasts_44 (lv_at hl 7 rfl) ?_
      refine lv_ldcw (v := (876216 : Int32)) hx hb hown (hts _ (kq q_1374 rfl)) dX10_lasts_46 ?_
      refine lv_icmp_ge (tgt := 141) hx hb dX10_lasts_49 (by decide) (fun c6 => ?_) (fun c6 => ?_)
      · have h := ite_t c6 h
        refine lv_aload_n hx hb dX10_lasts_141 rfl (lv_at hl 0 rfl) ?_
        refine va_get (D := (dC, dI)) (ci := 9) (v := .int (i_this 24)) (C := RX10) (T := TX10) (N := 29) hx hb hts inX10 hown hK hP 0 rfl rfl 24 (by decide) (hts _ (kq q_1010 rfl)) (fun _ h9 => h9) rfl dX10_lasts_142 ?_
        refine lv_if_ne (tgt := 152) hx hb dX10_lasts_145 (by decide) (fun c7 => ?_) (fun c7 => ?_)
        · have h := ite_f c7 h
          refine lv_aload_n hx hb dX10_lasts_152 rfl (lv_at hl 0 rfl) ?_
          refine lv_iconst (v := (0 : Int32)) hx hb dX10_lasts_153 (by decide) ?_
          refine va_put (D := (dC, dI)) (ci := 9) (v := .int (0 : Int32)) (ty := .int) (C := RX10) (T := TX10) (N := 29) hx hb hts inX10 tyX10 tyX10_ok nmX10 hown hK hP hD hS 0 rfl rfl 8 (by decide) (hts _ (kq q_994 rfl)) (fun _ h9 => h9) rfl (by decide +kernel) rfl rfl (Nat.le_of_ble_eq_true rfl) dX10_lasts_154 (fun H locs hP hD hS => ?_)
          have hP : va_P (dC, dI) vwCl [(h_this, .inr (9, [.ref h_this_dayAt, .ref h_this_secondAt, .ref h_this_spans, .ref h_this_kept, .int (i_this 4), .ref h_this_text, .int (i_this 6), .ref h_this_row, .int (0 : Int32), .int (i_this 9), .int (i_this 10), .int (i_this 11), .int (i_this 12), .int (i_this 13), .int (i_this 14), .int (i_this 15), .int (i_this 16), .int (i_this 17), .int (i_this 18), .ref h_this_read, .long (j_this 20), .ref h_this_many, .ref h_this_first, .ref h_this_lengths, .int (i_this 24), .long (j_this 25), .long (j_this 26), .ref h_this_page, .int (i_this 28)])), (h_this_spans, .inl (cI, 24, .inl f_this_spans)), (h_this_row, .inl (cJ, 16, .inr (.inl f_this_row))), (h_this_lengths, .inl (cJ, 128, .inr (.inl f_this_lengths)))] H := hP
          have hD : va_D A [(h_this, .inr (9, [.ref h_this_dayAt, .ref h_this_secondAt, .ref h_this_spans, .ref h_this_kept, .int (i_this 4), .ref h_this_text, .int (i_this 6), .ref h_this_row, .int (0 : Int32), .int (i_this 9), .int (i_this 10), .int (i_this 11), .int (i_this 12), .int (i_this 13), .int (i_this 14), .int (i_this 15), .int (i_this 16), .int (i_this 17), .int (i_this 18), .ref h_this_read, .long (j_this 20), .ref h_this_many, .ref h_this_first, .ref h_this_lengths, .int (i_this 24), .long (j_this 25), .long (j_this 26), .ref h_this_page, .int (i_this 28)])), (h_this_spans, .inl (cI, 24, .inl f_this_spans)), (h_this_row, .inl (cJ, 16, .inr (.inl f_this_row))), (h_this_lengths, .inl (cJ, 128, .inr (.inl f_this_lengths)))] := hD
          refine lv_aload_n hx hb dX10_lasts_157 rfl (lv_at hl 0 rfl) ?_
          refine lv_lload_n hx hb dX10_lasts_158 rfl (lv_at hl 3 rfl) ?_
          have hP : va_P (dC, dI) vwCl [cl_X10 h_this h_this_dayAt h_this_secondAt h_this_spans h_this_kept h_this_text h_this_row h_this_read h_this_many h_this_first h_this_lengths h_this_page (upd i_this 8 (0 : Int32)) j_this, (h_this_spans, .inl (cI, 24, .inl f_this_spans)), (h_this_row, .inl (cJ, 16, .inr (.inl f_this_row))), (h_this_lengths, .inl (cJ, 128, .inr (.inl f_this_lengths)))] H := hP
          have hD : va_D A [cl_X10 h_this h_this_dayAt h_this_secondAt h_this_spans h_this_kept h_this_text h_this_row h_this_read h_this_many h_this_first h_this_lengths h_this_page (upd i_this 8 (0 : Int32)) j_this, (h_this_spans, .inl (cI, 24, .inl f_this_spans)), (h_this_row, .inl (cJ, 16, .inr (.inl f_this_row))), (h_this_lengths, .inl (cJ, 128, .inr (.inl f_this_lengths)))] := hD
          obtain ⟨i_this_8, f_this_row_9, hc10, h⟩ := bd2_at h
          refine kjV (kV (own := "DateSpansModel") (C := "DateSpansModel") (b := h_this) (As := [.long v3]) (rest := []) ⟨hx, hb, hml, hown, hts⟩ (kX10_tell l dC dI cI cJ cB h_this h_this_dayAt h_this_secondAt h_this_spans h_this_kept h_this_text h_this_row h_this_read h_this_many h_this_first h_this_lengths h_this_page N v3 (upd i_this 8 (0 : Int32)) j_this f_this_row i_this_8 f_this_row_9 hc10 _) (kgV (kq q_1221 rfl) (kq q_1223 rfl) (kq q_29 rfl) (kq q_66 rfl) (kq q_1224 rfl)) yd_X10_tell ⟨Nat.le_of_ble_eq_true rfl, Nat.le_of_ble_eq_true rfl⟩ hN hK hP hD [0, 2] rfl rfl (ci := 9) rfl rfl rfl rfl rfl hl.1 rfl (lv_room (Nat.le_of_ble_eq_true rfl)) dX10_lasts_159) hP hD hS hA [0, 2] rfl rfl (fun H locs hP hD hS => ?_)
          have hP : va_P (dC, dI) vwCl [cl_X10 h_this h_this_dayAt h_this_secondAt h_this_spans h_this_kept h_this_text h_this_row h_this_read h_this_many h_this_first h_this_lengths h_this_page i_this_8 j_this, (h_this_spans, .inl (cI, 24, .inl f_this_spans)), (h_this_row, .inl (cJ, 16, .inr (.inl f_this_row_9))), (h_this_lengths, .inl (cJ, 128, .inr (.inl f_this_lengths)))] H := hP
          have hD : va_D A [cl_X10 h_this h_this_dayAt h_this_secondAt h_this_spans h_this_kept h_this_text h_this_row h_this_read h_this_many h_this_first h_this_lengths h_this_page i_this_8 j_this, (h_this_spans, .inl (cI, 24, .inl f_this_spans)), (h_this_row, .inl (cJ, 16, .inr (.inl f_this_row_9))), (h_this_lengths, .inl (cJ, 128, .inr (.inl f_this_lengths)))] := hD
          refine lv_aload_n hx hb dX10_lasts_162 rfl (lv_at hl 0 rfl) ?_
          refine lv_lload hx hb dX10_lasts_163 (lv_at hl 4 rfl) ?_
          obtain ⟨i_this_11, f_this_row_12, hc13, h⟩ := bd2_at h
          refine kjV (kV (own := "DateSpansModel") (C := "DateSpansModel") (b := h_this) (As := [.long v5]) (rest := []) ⟨hx, hb, hml, hown, hts⟩ (kX10_tell l dC dI cI cJ cB h_this h_this_dayAt h_this_secondAt h_this_spans h_this_kept h_this_text h_this_row h_this_read h_this_many h_this_first h_this_lengths h_this_page N v5 i_this_8 j_this f_this_row_9 i_this_11 f_this_row_12 hc13 _) (kgV (kq q_1221 rfl) (kq q_1223 rfl) (kq q_29 rfl) (kq q_66 rfl) (kq q_1224 rfl)) yd_X10_tell ⟨Nat.le_of_ble_eq_true rfl, Nat.le_of_ble_eq_true rfl⟩ hN hK hP hD [0, 2] rfl rfl (ci := 9) rfl rfl rfl rfl rfl hl.1 rfl (lv_room (Nat.le_of_ble_eq_true rfl)) dX10_lasts_165) hP hD hS hA [0, 2] rfl rfl (fun H locs hP hD hS => ?_)
          have hP : va_P (dC, dI) vwCl [cl_X10 h_this h_this_dayAt h_this_secondAt h_this_spans h_this_kept h_this_text h_this_row h_this_read h_this_many h_this_first h_this_lengths h_this_page i_this_11 j_this, (h_this_spans, .inl (cI, 24, .inl f_this_spans)), (h_this_row, .inl (cJ, 16, .inr (.inl f_this_row_12))), (h_this_lengths, .inl (cJ, 128, .inr (.inl f_this_lengths)))] H := hP
          have hD : va_D A [cl_X10 h_this h_this_dayAt h_this_secondAt h_this_spans h_this_kept h_this_text h_this_row h_this_read h_this_many h_this_first h_this_lengths h_this_page i_this_11 j_this, (h_this_spans, .inl (cI, 24, .inl f_this_spans)), (h_this_row, .inl (cJ, 16, .inr (.inl f_this_row_12))), (h_this_lengths, .inl (cJ, 128, .inr (.inl f_this_lengths)))] := hD
          refine lv_aload_n hx hb dX10_lasts_168 rfl (lv_at hl 0 rfl) ?_
          refine lv_iload hx hb dX10_lasts_169 (lv_at hl 5 rfl) ?_
          refine lv_i2l hx hb dX10_lasts_171 rfl ?_
          obtain ⟨i_this_14, f_this_row_15, hc16, h⟩ := bd2_at h
          refine kjV (kV (own := "DateSpansModel") (C := "DateSpansModel") (b := h_this) (As := [.long v7.toInt64]) (rest := []) ⟨hx, hb, hml, hown, hts⟩ (kX10_tell l dC dI cI cJ cB h_this h_this_dayAt h_this_secondAt h_this_spans h_this_kept h_this_text h_this_row h_this_read h_this_many h_this_first h_this_lengths h_this_page N v7.toInt64 i_this_11 j_this f_this_row_12 i_this_14 f_this_row_15 hc16 _) (kgV (kq q_1221 rfl) (kq q_1223 rfl) (kq q_29 rfl) (kq q_66 rfl) (kq q_1224 rfl)) yd_X10_tell ⟨Nat.le_of_ble_eq_true rfl, Nat.le_of_ble_eq_true rfl⟩ hN hK hP hD [0, 2] rfl rfl (ci := 9) rfl rfl rfl rfl rfl hl.1 rfl (lv_room (Nat.le_of_ble_eq_true rfl)) dX10_lasts_172) hP hD hS hA [0, 2] rfl rfl (fun H locs hP hD hS => ?_)
          have hP : va_P (dC, dI) vwCl [cl_X10 h_this h_this_dayAt h_this_secondAt h_this_spans h_this_kept h_this_text h_this_row h_this_read h_this_many h_this_first h_this_lengths h_this_page i_this_14 j_this, (h_this_spans, .inl (cI, 24, .inl f_this_spans)), (h_this_row, .inl (cJ, 16, .inr (.inl f_this_row_15))), (h_this_lengths, .inl (cJ, 128, .inr (.inl f_this_lengths)))] H := hP
          have hD : va_D A [cl_X10 h_this h_this_dayAt h_this_secondAt h_this_spans h_this_kept h_this_text h_this_row h_this_read h_this_many h_this_first h_this_lengths h_this_page i_this_14 j_this, (h_this_spans, .inl (cI, 24, .inl f_this_spans)), (h_this_row, .inl (cJ, 16, .inr (.inl f_this_row_15))), (h_this_lengths, .inl (cJ, 128, .inr (.inl f_this_lengths)))] := hD
          refine lv_aload_n hx hb dX10_lasts_175 rfl (lv_at hl 0 rfl) ?_
          refine lv_iload hx hb dX10_lasts_176 (lv_at hl 6 rfl) ?_
          refine lv_i2l hx hb dX10_lasts_178 rfl ?_
          obtain ⟨i_this_17, f_this_row_18, hc19, h⟩ := bd2_at h
          refine kjV (kV (own := "DateSpansModel") (C := "DateSpansModel") (b := h_this) (As := [.long v8.toInt64]) (rest := []) ⟨hx, hb, hml, hown, hts⟩ (kX10_tell l dC dI cI cJ cB h_this h_this_dayAt h_this_secondAt h_this_spans h_this_kept h_this_text h_this_row h_this_read h_this_many h_this_first h_this_lengths h_this_page N v8.toInt64 i_this_14 j_this f_this_row_15 i_this_17 f_this_row_18 hc19 _) (kgV (kq q_1221 rfl) (kq q_1223 rfl) (kq q_29 rfl) (kq q_66 rfl) (kq q_1224 rfl)) yd_X10_tell ⟨Nat.le_of_ble_eq_true rfl, Nat.le_of_ble_eq_true rfl⟩ hN hK hP hD [0, 2] rfl rfl (ci := 9) rfl rfl rfl rfl rfl hl.1 rfl (lv_room (Nat.le_of_ble_eq_true rfl)) dX10_lasts_179) hP hD hS hA [0, 2] rfl rfl (fun H locs hP hD hS => ?_)
          have hP : va_P (dC, dI) vwCl [cl_X10 h_this h_this_dayAt h_this_secondAt h_this_spans h_this_kept h_this_text h_this_row h_this_read h_this_many h_this_first h_this_lengths h_this_page i_this_17 j_this, (h_this_spans, .inl (cI, 24, .inl f_this_spans)), (h_this_row, .inl (cJ, 16, .inr (.inl f_this_row_18))), (h_this_lengths, .inl (cJ, 128, .inr (.inl f_this_lengths)))] H := hP
          have hD : va_D A [cl_X10 h_this h_this_dayAt h_this_secondAt h_this_spans h_this_kept h_this_text h_this_row h_this_read h_this_many h_this_first h_this_lengths h_this_page i_this_17 j_this, (h_this_spans, .inl (cI, 24, .inl f_this_spans)), (h_this_row, .inl (cJ, 16, .inr (.inl f_this_row_18))), (h_this_lengths, .inl (cJ, 128, .inr (.inl f_this_lengths)))] := hD
          refine lv_aload_n hx hb dX10_lasts_182 rfl (lv_at hl 0 rfl) ?_
          refine lv_aload_n hx hb dX10_lasts_183 rfl (lv_at hl 0 rfl) ?_
          refine va_get (D := (dC, dI)) (ci := 9) (v := .int (i_this_17 24)) (C := RX10) (T := TX10) (N := 29) hx hb hts inX10 hown hK hP 0 rfl rfl 24 (by decide) (hts _ (kq q_1010 rfl)) (fun _ h9 => h9) rfl dX10_lasts_184 ?_
          refine lv_i2l hx hb dX10_lasts_187 rfl ?_
          obtain ⟨i_this_20, f_this_row_21, hc22, h⟩ := bd2_at h
          refine kjV (kV (own := "DateSpansModel") (C := "DateSpansModel") (b := h_this) (As := [.long ((i_this_17 24).toInt64)]) (rest := []) ⟨hx, hb, hml, hown, hts⟩ (kX10_tell l dC dI cI cJ cB h_this h_this_dayAt h_this_secondAt h_this_spans h_this_kept h_this_text h_this_row h_this_read h_this_many h_this_first h_this_lengths h_this_page N ((i_this_17 24).toInt64) i_this_17 j_this f_this_row_18 i_this_20 f_this_row_21 hc22 _) (kgV (kq q_1221 rfl) (kq q_1223 rfl) (kq q_29 rfl) (kq q_66 rfl) (kq q_1224 rfl)) yd_X10_tell ⟨Nat.le_of_ble_eq_true rfl, Nat.le_of_ble_eq_true rfl⟩ hN hK hP hD [0, 2] rfl rfl (ci := 9) rfl rfl rfl rfl rfl hl.1 rfl (lv_room (Nat.le_of_ble_eq_true rfl)) dX10_lasts_188) hP hD hS hA [0, 2] rfl rfl (fun H locs hP hD hS => ?_)
          have hP : va_P (dC, dI) vwCl [cl_X10 h_this h_this_dayAt h_this_secondAt h_this_spans h_this_kept h_this_text h_this_row h_this_read h_this_many h_this_first h_this_lengths h_this_page i_this_20 j_this, (h_this_spans, .inl (cI, 24, .inl f_this_spans)), (h_this_row, .inl (cJ, 16, .inr (.inl f_this_row_21))), (h_this_lengths, .inl (cJ, 128, .inr (.inl f_this_lengths)))] H := hP
          have hD : va_D A [cl_X10 h_this h_this_dayAt h_this_secondAt h_this_spans h_this_kept h_this_text h_this_row h_this_read h_this_many h_this_first h_this_lengths h_this_page i_this_20 j_this, (h_this_spans, .inl (cI, 24, .inl f_this_spans)), (h_this_row, .inl (cJ, 16, .inr (.inl f_this_row_21))), (h_this_lengths, .inl (cJ, 128, .inr (.inl f_this_lengths)))] := hD
          refine lv_lload_n hx hb dX10_lasts_191 rfl (lv_at hl 3 rfl) ?_
          obtain ⟨rfl, rfl, rfl, rfl⟩ := pj4 h
          exact hEnd _ _ _ _ hP hS dX10_lasts_192
        have h := ite_t c7 h
        refine lv_ldc2 (v := (-2 : Int64)) hx hb hown (hts _ (kq q_1368 rfl)) dX10_lasts_148 ?_
        obtain ⟨rfl, rfl, rfl, rfl⟩ := pj4 h
        exact hEnd _ _ _ _ hP hS dX10_lasts_151
      have h := ite_f c6 h
      refine lv_aload_n hx hb dX10_lasts_52 rfl (lv_at hl 0 rfl) ?_
      refine lv_iload hx hb dX10_lasts_53 (lv_at hl 7 rfl) ?_
      refine lv_iconst (v := (0 : Int32)) hx hb dX10_lasts_55 (by decide) ?_
      obtain ⟨i_this_23, hc24, h⟩ := bd1_at h
      refine kjV (kV (own := "DateSpansModel") (C := "DateSpansModel") (b := h_this) (As := [.int v9, .int (0 : Int32)]) (rest := []) ⟨hx, hb, hml, hown, hts⟩ (kX10_stands l dC dI cI cJ cB h_this h_this_dayAt h_this_secondAt h_this_spans h_this_kept h_this_text h_this_row h_this_read h_this_many h_this_first h_this_lengths h_this_page N v9 (0 : Int32) i_this j_this i_this_23 hc24 _) (kgV (kq q_1136 rfl) (kq q_1138 rfl) (kq q_24 rfl) (kq q_66 rfl) (kq q_1139 rfl)) yd_X10_stands ⟨Nat.le_of_ble_eq_true rfl, Nat.le_of_ble_eq_true rfl⟩ hN hK hP hD [0] rfl rfl (ci := 9) rfl rfl rfl rfl rfl hl.1 rfl (lv_room (Nat.le_of_ble_eq_true rfl)) dX10_lasts_56) hP hD hS hA [0] rfl rfl (fun H locs hP hD hS => ?_)
      have hP : va_P (dC, dI) vwCl [cl_X10 h_this h_this_dayAt h_this_secondAt h_this_spans h_this_kept h_this_text h_this_row h_this_read h_this_many h_this_first h_this_lengths h_this_page i_this_23 j_this, (h_this_spans, .inl (cI, 24, .inl f_this_spans)), (h_this_row, .inl (cJ, 16, .inr (.inl f_this_row))), (h_this_lengths, .inl (cJ, 128, .inr (.inl f_this_lengths)))] H := hP
      have hD : va_D A [cl_X10 h_this h_this_dayAt h_this_secondAt h_this_spans h_this_kept h_this_text h_this_row h_this_read h_this_many h_this_first h_this_lengths h_this_page i_this_23 j_this, (h_this_spans, .inl (cI, 24, .inl f_this_spans)), (h_this_row, .inl (cJ, 16, .inr (.inl f_this_row))), (h_this_lengths, .inl (cJ, 128, .inr (.inl f_this_lengths)))] := hD
      refine lv_aload_n hx hb dX10_lasts_59 rfl (lv_at hl 0 rfl) ?_
      refine lv_iload_n hx hb dX10_lasts_60 rfl (lv_at hl 1 rfl) ?_
      refine lv_lconst (v := (1 : Int64)) hx hb dX10_lasts_61 (by decide) ?_
      refine lv_iload_n hx hb dX10_lasts_62 rfl (lv_at hl 2 rfl) ?_
      refine lv_iconst (v := (0 : Int32)) hx hb dX10_lasts_63 (by decide) ?_
      obtain ⟨r25, i_this_26, hc27, h⟩ := bd2_at h
      refine kjI (kV (own := "DateSpansModel") (C := "DateSpansModel") (b := h_this) (As := [.int v1, .long (1 : Int64), .int v2, .int (0 : Int32)]) (rest := []) ⟨hx, hb, hml, hown, hts⟩ (kX10_addsSpan l dC dI cI cJ cB h_this h_this_dayAt h_this_secondAt h_this_spans h_this_kept h_this_text h_this_row h_this_read h_this_many h_this_first h_this_lengths h_this_page N v1 (1 : Int64) v2 (0 : Int32) i_this_23 j_this f_this_spans r25 i_this_26 hc27 _) (kgV (kq q_1286 rfl) (kq q_1288 rfl) (kq q_33 rfl) (kq q_66 rfl) (kq q_1289 rfl)) yd_X10_addsSpan ⟨Nat.le_of_ble_eq_true rfl, Nat.le_of_ble_eq_true rfl⟩ hN hK hP hD [0, 1] rfl rfl (ci := 9) rfl rfl rfl rfl rfl hl.1 rfl (lv_room (Nat.le_of_ble_eq_true rfl)) dX10_lasts_64) hP hD hS hA [0, 1] rfl rfl (fun H locs hP hD hS => ?_)
      have hP : va_P (dC, dI) vwCl [cl_X10 h_this h_this_dayAt h_this_secondAt h_this_spans h_this_kept h_this_text h_this_row h_this_read h_this_many h_this_first h_this_lengths h_this_page i_this_26 j_this, (h_this_spans, .inl (cI, 24, .inl f_this_spans)), (h_this_row, .inl (cJ, 16, .inr (.inl f_this_row))), (h_this_lengths, .inl (cJ, 128, .inr (.inl f_this_lengths)))] H := hP
      have hD : va_D A [cl_X10 h_this h_this_dayAt h_this_secondAt h_this_spans h_this_kept h_this_text h_this_row h_this_read h_this_many h_this_first h_this_lengths h_this_page i_this_26 j_this, (h_this_spans, .inl (cI, 24, .inl f_this_spans)), (h_this_row, .inl (cJ, 16, .inr (.inl f_this_row))), (h_this_lengths, .inl (cJ, 128, .inr (.inl f_this_lengths)))] := hD
      refine lv_if_ne (tgt := 73) hx hb dX10_lasts_67 (by decide) (fun c28 => ?_) (fun c28 => ?_)
      · have h := ite_f c28 h
        refine lv_aload_n hx hb dX10_lasts_73 rfl (lv_at hl 0 rfl) ?_
        obtain ⟨r29, hc30, h⟩ := bd1_at h
        refine kjL (kV (own := "DateSpansModel") (C := "DateSpansModel") (b := h_this) (As := []) (rest := []) ⟨hx, hb, hml, hown, hts⟩ (kX10_instant l dC dI cI cJ cB h_this h_this_dayAt h_this_secondAt h_this_spans h_this_kept h_this_text h_this_row h_this_read h_this_many h_this_first h_this_lengths h_this_page N i_this_26 j_this r29 hc30 _) (kgV (kq q_1352 rfl) (kq q_1354 rfl) (kq q_42 rfl) (kq q_66 rfl) (kq q_1355 rfl)) yd_X10_instant ⟨Nat.le_of_ble_eq_true rfl, Nat.le_of_ble_eq_true rfl⟩ hN hK hP hD [0] rfl rfl (ci := 9) rfl rfl rfl rfl rfl hl.1 rfl (lv_room (Nat.le_of_ble_eq_true rfl)) dX10_lasts_74) hP hD hS hA [0] rfl rfl (fun H locs hP hD hS => ?_)
        have hP : va_P (dC, dI) vwCl [cl_X10 h_this h_this_dayAt h_this_secondAt h_this_spans h_this_kept h_this_text h_this_row h_this_read h_this_many h_this_first h_this_lengths h_this_page i_this_26 j_this, (h_this_spans, .inl (cI, 24, .inl f_this_spans)), (h_this_row, .inl (cJ, 16, .inr (.inl f_this_row))), (h_this_lengths, .inl (cJ, 128, .inr (.inl f_this_lengths)))] H := hP
        have hD : va_D A [cl_X10 h_this h_this_dayAt h_this_secondAt h_this_spans h_this_kept h_this_text h_this_row h_this_read h_this_many h_this_first h_this_lengths h_this_page i_this_26 j_this, (h_this_spans, .inl (cI, 24, .inl f_this_spans)), (h_this_row, .inl (cJ, 16, .inr (.inl f_this_row))), (h_this_lengths, .inl (cJ, 128, .inr (.inl f_this_lengths)))] := hD
        refine lv_iload hx hb dX10_lasts_77 (lv_at hl 7 rfl) ?_
        refine lv_i2l hx hb dX10_lasts_79 rfl ?_
        refine lv_ldc2 (v := (86400 : Int64)) hx hb hown (hts _ (kq q_1309 rfl)) dX10_lasts_80 ?_
        refine lv_lmul hx hb dX10_lasts_83 ?_
        refine lv_lsub hx hb dX10_lasts_84 ?_
        refine lv_topl (fun z31 ez31 => ?_)
        have h := nm_at ez31 h
        refine lv_lstore (lv' := [(10, .long z31), (0, .ref h_this), (1, .int v1), (2, .int v2), (3, .long v3), (5, .long v5), (7, .int v7), (8, .int v8), (9, .int v9)]) hx hb dX10_lasts_85 hl (by decide) rfl (fun ls hl => ?_)
        refine lv_aload_n hx hb dX10_lasts_87 rfl (lv_at hl 1 rfl) ?_
        refine lv_lload hx hb dX10_lasts_88 (lv_at hl 0 rfl) ?_
        obtain ⟨i_this_32, f_this_lengths_33, hc34, h⟩ := bd2_at h
        refine kjV (kV (own := "DateSpansModel") (C := "DateSpansModel") (b := h_this) (As := [.long z31]) (rest := []) ⟨hx, hb, hml, hown, hts⟩ (kX10_seesLength l dC dI cI cJ cB h_this h_this_dayAt h_this_secondAt h_this_spans h_this_kept h_this_text h_this_row h_this_read h_this_many h_this_first h_this_lengths h_this_page N z31 i_this_26 j_this f_this_lengths i_this_32 f_this_lengths_33 hc34 _) (kgV (kq q_1379 rfl) (kq q_1381 rfl) (kq q_43 rfl) (kq q_66 rfl) (kq q_1382 rfl)) yd_X10_seesLength ⟨Nat.le_of_ble_eq_true rfl, Nat.le_of_ble_eq_true rfl⟩ hN hK hP hD [0, 3] rfl rfl (ci := 9) rfl rfl rfl rfl rfl hl.1 rfl (lv_room (Nat.le_of_ble_eq_true rfl)) dX10_lasts_90) hP hD hS hA [0, 3] rfl rfl (fun H locs hP hD hS => ?_)
        have hP : va_P (dC, dI) vwCl [cl_X10 h_this h_this_dayAt h_this_secondAt h_this_spans h_this_kept h_this_text h_this_row h_this_read h_this_many h_this_first h_this_lengths h_this_page i_this_32 j_this, (h_this_spans, .inl (cI, 24, .inl f_this_spans)), (h_this_row, .inl (cJ, 16, .inr (.inl f_this_row))), (h_this_lengths, .inl (cJ, 128, .inr (.inl f_this_lengths_33)))] H := hP
        have hD : va_D A [cl_X10 h_this h_this_dayAt h_this_secondAt h_this_spans h_this_kept h_this_text h_this_row h_this_read h_this_many h_this_first h_this_lengths h_this_page i_this_32 j_this, (h_this_spans, .inl (cI, 24, .inl f_this_spans)), (h_this_row, .inl (cJ, 16, .inr (.inl f_this_row))), (h_this_lengths, .inl (cJ, 128, .inr (.inl f_this_lengths_33)))] := hD
        refine lv_iload hx hb dX10_lasts_93 (lv_at hl 6 rfl) ?_
        refine lv_iconst (v := (-1 : Int32)) hx hb dX10_lasts_95 (by decide) ?_
        refine lv_icmp_eq (tgt := 106) hx hb dX10_lasts_96 (by decide) (fun c35 => ?_) (fun c35 => ?_)
        · have h := ite_t c35 h
          refine lv_lload hx hb dX10_lasts_106 (lv_at hl 0 rfl) ?_
          refine lv_lstore_n (lv' := [(3, .long z31), (10, .long z31), (0, .ref h_this), (1, .int v1), (2, .int v2), (5, .long v5), (7, .int v7), (8, .int v8), (9, .int v9)]) hx hb dX10_lasts_108 rfl hl (by decide) rfl (fun ls hl => ?_)
          refine lv_iload hx hb dX10_lasts_109 (lv_at hl 8 rfl) ?_
          refine lv_istore (lv' := [(7, .int v9), (3, .long z31), (10, .long z31), (0, .ref h_this), (1, .int v1), (2, .int v2), (5, .long v5), (8, .int v8), (9, .int v9)]) hx hb dX10_lasts_111 hl (by decide) rfl (fun ls hl => ?_)
          exact JN_113 _ _ _ _ _ _ _ _ _ _ _ _ _ _ h (lv_sub hl [3, 4, 5, 1, 6, 0, 7, 8, 2] rfl) hP hD hS
        have h := ite_f c35 h
        refine lv_lload hx hb dX10_lasts_99 (lv_at hl 0 rfl) ?_
        refine lv_lload_n hx hb dX10_lasts_101 rfl (lv_at hl 4 rfl) ?_
        refine W.lcmp hx hb dX10_lasts_102 ?_
        refine lv_if_ge (tgt := 113) hx hb dX10_lasts_103 (by decide) (fun c36 => ?_) (fun c36 => ?_)
        · have h := ite_t c36 h
          exact JN_113 _ _ _ _ _ _ _ _ _ _ _ _ _ _ h (lv_sub hl [1, 2, 3, 4, 5, 6, 7, 8, 0] rfl) hP hD hS
        have h := ite_f c36 h
        refine lv_lload hx hb dX10_lasts_106 (lv_at hl 0 rfl) ?_
        refine lv_lstore_n (lv' := [(3, .long z31), (10, .long z31), (0, .ref h_this), (1, .int v1), (2, .int v2), (5, .long v5), (7, .int v7), (8, .int v8), (9, .int v9)]) hx hb dX10_lasts_108 rfl hl (by decide) rfl (fun ls hl => ?_)
        refine lv_iload hx hb dX10_lasts_109 (lv_at hl 8 rfl) ?_
        refine lv_istore (lv' := [(7, .int v9), (3, .long z31), (10, .long z31), (0, .ref h_this), (1, .int v1), (2, .int v2), (5, .long v5), (8, .int v8), (9, .int v9)]) hx hb dX10_lasts_111 hl (by decide) rfl (fun ls hl => ?_)
        exact JN_113 _ _ _ _ _ _ _ _ _ _ _ _ _ _ h (lv_sub hl [3, 4, 5, 1, 6, 0, 7, 8, 2] rfl) hP hD hS
      have h := ite_t c28 h
      refine lv_goto (tgt := 135) hx hb dX10_lasts_70 (by decide) ?_
      obtain ⟨z37, ez37⟩ : ∃ y : Int32, y = (v9 + (1 : Int32)) := ⟨_, rfl⟩
      have h := nm_at ez37 h
      refine lv_iinc (v := z37) (lv' := [(9, .int z37), (0, .ref h_this), (1, .int v1), (2, .int v2), (3, .long v3), (5, .long v5), (7, .int v7), (8, .int v8)]) hx hb dX10_lasts_135 hl (k := 7) rfl (by rw [ez37]; rfl) (by decide) rfl (fun ls hl => ?_)
      refine lv_goto (tgt := 44) hx hb dX10_lasts_138 (by decide) ?_
      exact ih_44 _ _ _ _ _ _ _ _ _ _ _ _ _ h (lv_sub hl [1, 2, 3, 4, 5, 6, 7, 0] rfl) hP hD hS
  have h := hf
  unfold fX10_lasts at h
  refine lv_aload_n hx hb dX10_lasts_0 rfl (lv_at hl 0 rfl) ?_
  refine lv_iconst (v := (0 : Int32)) hx hb dX10_lasts_1 (by decide) ?_
  refine va_put (D := (dC, dI)) (ci := 9) (v := .int (0 : Int32)) (ty := .int) (C := RX10) (T := TX10) (N := 29) hx hb hts inX10 tyX10 tyX10_ok nmX10 hown hK hP hD hS 0 rfl rfl 9 (by decide) (hts _ (kq q_995 rfl)) (fun _ h9 => h9) rfl (by decide +kernel) rfl rfl (Nat.le_of_ble_eq_true rfl) dX10_lasts_2 (fun H locs hP hD hS => ?_)
  have hP : va_P (dC, dI) vwCl [(h_this, .inr (9, [.ref h_this_dayAt, .ref h_this_secondAt, .ref h_this_spans, .ref h_this_kept, .int (i_this 4), .ref h_this_text, .int (i_this 6), .ref h_this_row, .int (i_this 8), .int (0 : Int32), .int (i_this 10), .int (i_this 11), .int (i_this 12), .int (i_this 13), .int (i_this 14), .int (i_this 15), .int (i_this 16), .int (i_this 17), .int (i_this 18), .ref h_this_read, .long (j_this 20), .ref h_this_many, .ref h_this_first, .ref h_this_lengths, .int (i_this 24), .long (j_this 25), .long (j_this 26), .ref h_this_page, .int (i_this 28)])), (h_this_spans, .inl (cI, 24, .inl f_this_spans)), (h_this_row, .inl (cJ, 16, .inr (.inl f_this_row))), (h_this_lengths, .inl (cJ, 128, .inr (.inl f_this_lengths)))] H := hP
  have hD : va_D A [(h_this, .inr (9, [.ref h_this_dayAt, .ref h_this_secondAt, .ref h_this_spans, .ref h_this_kept, .int (i_this 4), .ref h_this_text, .int (i_this 6), .ref h_this_row, .int (i_this 8), .int (0 : Int32), .int (i_this 10), .int (i_this 11), .int (i_this 12), .int (i_this 13), .int (i_this 14), .int (i_this 15), .int (i_this 16), .int (i_this 17), .int (i_this 18), .ref h_this_read, .long (j_this 20), .ref h_this_many, .ref h_this_first, .ref h_this_lengths, .int (i_this 24), .long (j_this 25), .long (j_this 26), .ref h_this_page, .int (i_this 28)])), (h_this_spans, .inl (cI, 24, .inl f_this_spans)), (h_this_row, .inl (cJ, 16, .inr (.inl f_this_row))), (h_this_lengths, .inl (cJ, 128, .inr (.inl f_this_lengths)))] := hD
  refine lv_iload_n hx hb dX10_lasts_5 rfl (lv_at hl 1 rfl) ?_
  have hP : va_P (dC, dI) vwCl [cl_X10 h_this h_this_dayAt h_this_secondAt h_this_spans h_this_kept h_this_text h_this_row h_this_read h_this_many h_this_first h_this_lengths h_this_page (upd i_this 9 (0 : Int32)) j_this, (h_this_spans, .inl (cI, 24, .inl f_this_spans)), (h_this_row, .inl (cJ, 16, .inr (.inl f_this_row))), (h_this_lengths, .inl (cJ, 128, .inr (.inl f_this_lengths)))] H := hP
  have hD : va_D A [cl_X10 h_this h_this_dayAt h_this_secondAt h_this_spans h_this_kept h_this_text h_this_row h_this_read h_this_many h_this_first h_this_lengths h_this_page (upd i_this 9 (0 : Int32)) j_this, (h_this_spans, .inl (cI, 24, .inl f_this_spans)), (h_this_row, .inl (cJ, 16, .inr (.inl f_this_row))), (h_this_lengths, .inl (cJ, 128, .inr (.inl f_this_lengths)))] := hD
  obtain ⟨r38, hc39, h⟩ := bd1_at h
  refine kjSI (kS0 (own := "DateSpansModel") (As := [.int p1]) (rest := []) ⟨hx, hb, hml, hown, hts⟩ (kX10_isSlot l N p1 r38 hc39) (kgS (kq q_1123 rfl) (kq q_1124 rfl) (kq q_66 rfl) (kq q_1125 rfl)) yd_X10_isSlot ⟨Nat.le_of_ble_eq_true rfl, Nat.le_of_ble_eq_true rfl⟩ rfl rfl hl.1 rfl (lv_room (Nat.le_of_ble_eq_true rfl)) dX10_lasts_6) ?_
  refine lv_if_eq (tgt := 19) hx hb dX10_lasts_9 (by decide) (fun c40 => ?_) (fun c40 => ?_)
  · have h := ite_t c40 h
    refine lv_ldc2 (v := (-1 : Int64)) hx hb hown (hts _ (kq q_1363 rfl)) dX10_lasts_19 ?_
    obtain ⟨rfl, rfl, rfl, rfl⟩ := pj4 h
    exact hEnd _ _ _ _ hP hS dX10_lasts_22
  have h := ite_f c40 h
  refine lv_iload_n hx hb dX10_lasts_12 rfl (lv_at hl 2 rfl) ?_
  obtain ⟨r41, hc42, h⟩ := bd1_at h
  refine kjSI (kS0 (own := "DateSpansModel") (As := [.int p2]) (rest := []) ⟨hx, hb, hml, hown, hts⟩ (kX10_isLaw l N p2 r41 hc42) (kgS (kq q_1275 rfl) (kq q_1276 rfl) (kq q_66 rfl) (kq q_1277 rfl)) yd_X10_isLaw ⟨Nat.le_of_ble_eq_true rfl, Nat.le_of_ble_eq_true rfl⟩ rfl rfl hl.1 rfl (lv_room (Nat.le_of_ble_eq_true rfl)) dX10_lasts_13) ?_
  refine lv_if_ne (tgt := 23) hx hb dX10_lasts_16 (by decide) (fun c43 => ?_) (fun c43 => ?_)
  · have h := ite_f c43 h
    refine lv_aload_n hx hb dX10_lasts_23 rfl (lv_at hl 0 rfl) ?_
    refine lv_iconst (v := (0 : Int32)) hx hb dX10_lasts_24 (by decide) ?_
    refine va_put (D := (dC, dI)) (ci := 9) (v := .int (0 : Int32)) (ty := .int) (C := RX10) (T := TX10) (N := 29) hx hb hts inX10 tyX10 tyX10_ok nmX10 hown hK hP hD hS 0 rfl rfl 24 (by decide) (hts _ (kq q_1010 rfl)) (fun _ h9 => h9) rfl (by decide +kernel) rfl rfl (Nat.le_of_ble_eq_true rfl) dX10_lasts_25 (fun H locs hP hD hS => ?_)
    have hP : va_P (dC, dI) vwCl [(h_this, .inr (9, [.ref h_this_dayAt, .ref h_this_secondAt, .ref h_this_spans, .ref h_this_kept, .int ((upd i_this 9 (0 : Int32)) 4), .ref h_this_text, .int ((upd i_this 9 (0 : Int32)) 6), .ref h_this_row, .int ((upd i_this 9 (0 : Int32)) 8), .int ((upd i_this 9 (0 : Int32)) 9), .int ((upd i_this 9 (0 : Int32)) 10), .int ((upd i_this 9 (0 : Int32)) 11), .int ((upd i_this 9 (0 : Int32)) 12), .int ((upd i_this 9 (0 : Int32)) 13), .int ((upd i_this 9 (0 : Int32)) 14), .int ((upd i_this 9 (0 : Int32)) 15), .int ((upd i_this 9 (0 : Int32)) 16), .int ((upd i_this 9 (0 : Int32)) 17), .int ((upd i_this 9 (0 : Int32)) 18), .ref h_this_read, .long (j_this 20), .ref h_this_many, .ref h_this_first, .ref h_this_lengths, .int (0 : Int32), .long (j_this 25), .long (j_this 26), .ref h_this_page, .int ((upd i_this 9 (0 : Int32)) 28)])), (h_this_spans, .inl (cI, 24, .inl f_this_spans)), (h_this_row, .inl (cJ, 16, .inr (.inl f_this_row))), (h_this_lengths, .inl (cJ, 128, .inr (.inl f_this_lengths)))] H := hP
    have hD : va_D A [(h_this, .inr (9, [.ref h_this_dayAt, .ref h_this_secondAt, .ref h_this_spans, .ref h_this_kept, .int ((upd i_this 9 (0 : Int32)) 4), .ref h_this_text, .int ((upd i_this 9 (0 : Int32)) 6), .ref h_this_row, .int ((upd i_this 9 (0 : Int32)) 8), .int ((upd i_this 9 (0 : Int32)) 9), .int ((upd i_this 9 (0 : Int32)) 10), .int ((upd i_this 9 (0 : Int32)) 11), .int ((upd i_this 9 (0 : Int32)) 12), .int ((upd i_this 9 (0 : Int32)) 13), .int ((upd i_this 9 (0 : Int32)) 14), .int ((upd i_this 9 (0 : Int32)) 15), .int ((upd i_this 9 (0 : Int32)) 16), .int ((upd i_this 9 (0 : Int32)) 17), .int ((upd i_this 9 (0 : Int32)) 18), .ref h_this_read, .long (j_this 20), .ref h_this_many, .ref h_this_first, .ref h_this_lengths, .int (0 : Int32), .long (j_this 25), .long (j_this 26), .ref h_this_page, .int ((upd i_this 9 (0 : Int32)) 28)])), (h_this_spans, .inl (cI, 24, .inl f_this_spans)), (h_this_row, .inl (cJ, 16, .inr (.inl f_this_row))), (h_this_lengths, .inl (cJ, 128, .inr (.inl f_this_lengths)))] := hD
    refine lv_lconst (v := (0 : Int64)) hx hb dX10_lasts_28 (by decide) ?_
    refine lv_lstore_n (lv' := [(3, .long (0 : Int64)), (0, .ref h_this), (1, .int p1), (2, .int p2)]) hx hb dX10_lasts_29 rfl hl (by decide) rfl (fun ls hl => ?_)
    refine lv_lconst (v := (0 : Int64)) hx hb dX10_lasts_30 (by decide) ?_
    refine lv_lstore (lv' := [(5, .long (0 : Int64)), (3, .long (0 : Int64)), (0, .ref h_this), (1, .int p1), (2, .int p2)]) hx hb dX10_lasts_31 hl (by decide) rfl (fun ls hl => ?_)
    refine lv_iconst (v := (-1 : Int32)) hx hb dX10_lasts_33 (by decide) ?_
    refine lv_istore (lv' := [(7, .int (-1 : Int32)), (5, .long (0 : Int64)), (3, .long (0 : Int64)), (0, .ref h_this), (1, .int p1), (2, .int p2)]) hx hb dX10_lasts_34 hl (by decide) rfl (fun ls hl => ?_)
    refine lv_iconst (v := (-1 : Int32)) hx hb dX10_lasts_36 (by decide) ?_
    refine lv_istore (lv' := [(8, .int (-1 : Int32)), (7, .int (-1 : Int32)), (5, .long (0 : Int64)), (3, .long (0 : Int64)), (0, .ref h_this), (1, .int p1), (2, .int p2)]) hx hb dX10_lasts_37 hl (by decide) rfl (fun ls hl => ?_)
    refine lv_ldcw (v := (730119 : Int32)) hx hb hown (hts _ (kq q_1373 rfl)) dX10_lasts_39 ?_
    refine lv_istore (lv' := [(9, .int (730119 : Int32)), (8, .int (-1 : Int32)), (7, .int (-1 : Int32)), (5, .long (0 : Int64)), (3, .long (0 : Int64)), (0, .ref h_this), (1, .int p1), (2, .int p2)]) hx hb dX10_lasts_42 hl (by decide) rfl (fun ls hl => ?_)
    have hP : va_P (dC, dI) vwCl [cl_X10 h_this h_this_dayAt h_this_secondAt h_this_spans h_this_kept h_this_text h_this_row h_this_read h_this_many h_this_first h_this_lengths h_this_page (upd (upd i_this 9 (0 : Int32)) 24 (0 : Int32)) j_this, (h_this_spans, .inl (cI, 24, .inl f_this_spans)), (h_this_row, .inl (cJ, 16, .inr (.inl f_this_row))), (h_this_lengths, .inl (cJ, 128, .inr (.inl f_this_lengths)))] H := hP
    have hD : va_D A [cl_X10 h_this h_this_dayAt h_this_secondAt h_this_spans h_this_kept h_this_text h_this_row h_this_read h_this_many h_this_first h_this_lengths h_this_page (upd (upd i_this 9 (0 : Int32)) 24 (0 : Int32)) j_this, (h_this_spans, .inl (cI, 24, .inl f_this_spans)), (h_this_row, .inl (cJ, 16, .inr (.inl f_this_row))), (h_this_lengths, .inl (cJ, 128, .inr (.inl f_this_lengths)))] := hD
    exact LP_44 N _ _ _ _ _ _ _ _ _ _ _ _ _ h (lv_sub hl [5, 6, 7, 4, 3, 2, 1, 0] rfl) hP hD hS
  have h := ite_t c43 h
  refine lv_ldc2 (v := (-1 : Int64)) hx hb hown (hts _ (kq q_1363 rfl)) dX10_lasts_19 ?_
  obtain ⟨rfl, rfl, rfl, rfl⟩ := pj4 h
  exact hEnd _ _ _ _ hP hS dX10_lasts_22
noncomputable def fX10_isBeyond (N : Nat) (p1 : Int32) (p2 : Int64) (i_this : Nat → Int32) (j_this : Nat → Int64) (f_this_spans : Nat → Int32) : Option (Int32) := (gi ((3 : Int32) * p1) 24 (bd1 (fX10_isPart N (p2 * (f_this_spans ((3 : Int32) * p1).toNatClampNeg).toInt64)) fun r2 => (if r2 = (0 : Int32) then (some (1 : Int32)) else (gi (((3 : Int32) * p1) + (1 : Int32)) 24 (bd1 (fX10_isPart N (p2 * (f_this_spans (((3 : Int32) * p1) + (1 : Int32)).toNatClampNeg).toInt64)) fun r6 => (if r6 = (0 : Int32) then (some (1 : Int32)) else (gi (((3 : Int32) * p1) + (2 : Int32)) 24 (bd1 (fX10_isPart N (p2 * (f_this_spans (((3 : Int32) * p1) + (2 : Int32)).toNatClampNeg).toInt64)) fun r10 => (if r10 = (0 : Int32) then (some (1 : Int32)) else (some (0 : Int32)))))))))))
set_option maxHeartbeats 4000000 in
set_option maxRecDepth 100000 in
theorem kX10_isBeyond (l : Launch) (dC : Nat → ClassId) (dI : Nat → Nat → Nat) (cI cJ cB : ClassId) (h_this h_this_dayAt h_this_secondAt h_this_spans h_this_kept h_this_text h_this_row h_this_read h_this_many h_this_first h_this_lengths h_this_page : Nat) (N : Nat) (p1 : Int32) (p2 : Int64) (i_this : Nat → Int32) (j_this : Nat → Int64) (f_this_spans : Nat → Int32) (r : Int32) (hf : fX10_isBeyond N p1 p2 i_this j_this f_this_spans = some r) : MI l yX10_isBeyond (kws yX10_isBeyond cX10_isBeyond 4 (some .boolean)) (kR 2 46) (dC, dI) (kT cI cJ cB) [.ref h_this, .int p1, .long p2] [cl_X10 h_this h_this_dayAt h_this_secondAt h_this_spans h_this_kept h_this_text h_this_row h_this_read h_this_many h_this_first h_this_lengths h_this_page i_this j_this, (h_this_spans, .inl (cI, 24, .inl f_this_spans))] [cl_X10 h_this h_this_dayAt h_this_secondAt h_this_spans h_this_kept h_this_text h_this_row h_this_read h_this_many h_this_first h_this_lengths h_this_page i_this j_this, (h_this_spans, .inl (cI, 24, .inl f_this_spans))] r := by
  refine MI.of (cc := cX10_isBeyond) (maxL := 4) (by decide) (Nat.le_of_ble_eq_true rfl) (fun p e s m args below meth c A Q ls KC hN hK hP hD hA hl hEnd => ?_)
  obtain ⟨hx, hb, hml, hown, hts⟩ := KC
  have hown : s.vm.findClass "DateSpansModel" = some m.cls := hown
  have hl : lv_has ls 4 [(0, .ref h_this), (1, .int p1), (2, .long p2)] := hl
  have hS : va_S A s.heap s.heap [] := va_S.rf
  have h := hf
  unfold fX10_isBeyond at h
  refine lv_lload_n hx hb dX10_isBeyond_0 rfl (lv_at hl 2 rfl) ?_
  refine lv_aload_n hx hb dX10_isBeyond_1 rfl (lv_at hl 0 rfl) ?_
  refine va_get (D := (dC, dI)) (ci := 9) (v := .ref h_this_spans) (C := RX10) (T := TX10) (N := 29) hx hb hts inX10 hown hK hP 0 rfl rfl 2 (by decide) (hts _ (kq q_988 rfl)) (fun _ h9 => h9) rfl dX10_isBeyond_2 ?_
  refine lv_iconst (v := (3 : Int32)) hx hb dX10_isBeyond_5 (by decide) ?_
  refine lv_iload_n hx hb dX10_isBeyond_6 rfl (lv_at hl 1 rfl) ?_
  refine lv_imul hx hb dX10_isBeyond_7 ?_
  obtain ⟨hi1, h⟩ := gi_at h
  refine va_iald hx hb hK hP 1 0 rfl rfl hi1 dX10_isBeyond_8 ?_
  refine lv_i2l hx hb dX10_isBeyond_9 rfl ?_
  refine lv_lmul hx hb dX10_isBeyond_10 ?_
  obtain ⟨r2, hc3, h⟩ := bd1_at h
  refine kjSI (kS0 (own := "DateSpansModel") (As := [.long (p2 * (f_this_spans ((3 : Int32) * p1).toNatClampNeg).toInt64)]) (rest := []) ⟨hx, hb, hml, hown, hts⟩ (kX10_isPart l N (p2 * (f_this_spans ((3 : Int32) * p1).toNatClampNeg).toInt64) r2 hc3) (kgS (kq q_1229 rfl) (kq q_1230 rfl) (kq q_66 rfl) (kq q_1231 rfl)) yd_X10_isPart ⟨Nat.le_of_ble_eq_true rfl, Nat.le_of_ble_eq_true rfl⟩ rfl rfl hl.1 rfl (lv_room (Nat.le_of_ble_eq_true rfl)) dX10_isBeyond_11) ?_
  refine lv_if_eq (tgt := 55) hx hb dX10_isBeyond_14 (by decide) (fun c4 => ?_) (fun c4 => ?_)
  · have h := ite_t c4 h
    refine lv_iconst (v := (1 : Int32)) hx hb dX10_isBeyond_55 (by decide) ?_
    refine lv_goto (tgt := 60) hx hb dX10_isBeyond_56 (by decide) ?_
    obtain rfl := pj1 h
    exact hEnd _ _ _ _ hP hS dX10_isBeyond_60 rfl
  have h := ite_f c4 h
  refine lv_lload_n hx hb dX10_isBeyond_17 rfl (lv_at hl 2 rfl) ?_
  refine lv_aload_n hx hb dX10_isBeyond_18 rfl (lv_at hl 0 rfl) ?_
  refine va_get (D := (dC, dI)) (ci := 9) (v := .ref h_this_spans) (C := RX10) (T := TX10) (N := 29) hx hb hts inX10 hown hK hP 0 rfl rfl 2 (by decide) (hts _ (kq q_988 rfl)) (fun _ h9 => h9) rfl dX10_isBeyond_19 ?_
  refine lv_iconst (v := (3 : Int32)) hx hb dX10_isBeyond_22 (by decide) ?_
  refine lv_iload_n hx hb dX10_isBeyond_23 rfl (lv_at hl 1 rfl) ?_
  refine lv_imul hx hb dX10_isBeyond_24 ?_
  refine lv_iconst (v := (1 : Int32)) hx hb dX10_isBeyond_25 (by decide) ?_
  refine lv_iadd hx hb dX10_isBeyond_26 ?_
  obtain ⟨hi5, h⟩ := gi_at h
  refine va_iald hx hb hK hP 1 0 rfl rfl hi5 dX10_isBeyond_27 ?_
  refine lv_i2l hx hb dX10_isBeyond_28 rfl ?_
  refine lv_lmul hx hb dX10_isBeyond_29 ?_
  obtain ⟨r6, hc7, h⟩ := bd1_at h
  refine kjSI (kS0 (own := "DateSpansModel") (As := [.long (p2 * (f_this_spans (((3 : Int32) * p1) + (1 : Int32)).toNatClampNeg).toInt64)]) (rest := []) ⟨hx, hb, hml, hown, hts⟩ (kX10_isPart l N (p2 * (f_this_spans (((3 : Int32) * p1) + (1 : Int32)).toNatClampNeg).toInt64) r6 hc7) (kgS (kq q_1229 rfl) (kq q_1230 rfl) (kq q_66 rfl) (kq q_1231 rfl)) yd_X10_isPart ⟨Nat.le_of_ble_eq_true rfl, Nat.le_of_ble_eq_true rfl⟩ rfl rfl hl.1 rfl (lv_room (Nat.le_of_ble_eq_true rfl)) dX10_isBeyond_30) ?_
  refine lv_if_eq (tgt := 55) hx hb dX10_isBeyond_33 (by decide) (fun c8 => ?_) (fun c8 => ?_)
  · have h := ite_t c8 h
    refine lv_iconst (v := (1 : Int32)) hx hb dX10_isBeyond_55 (by decide) ?_
    refine lv_goto (tgt := 60) hx hb dX10_isBeyond_56 (by decide) ?_
    obtain rfl := pj1 h
    exact hEnd _ _ _ _ hP hS dX10_isBeyond_60 rfl
  have h := ite_f c8 h
  refine lv_lload_n hx hb dX10_isBeyond_36 rfl (lv_at hl 2 rfl) ?_
  refine lv_aload_n hx hb dX10_isBeyond_37 rfl (lv_at hl 0 rfl) ?_
  refine va_get (D := (dC, dI)) (ci := 9) (v := .ref h_this_spans) (C := RX10) (T := TX10) (N := 29) hx hb hts inX10 hown hK hP 0 rfl rfl 2 (by decide) (hts _ (kq q_988 rfl)) (fun _ h9 => h9) rfl dX10_isBeyond_38 ?_
  refine lv_iconst (v := (3 : Int32)) hx hb dX10_isBeyond_41 (by decide) ?_
  refine lv_iload_n hx hb dX10_isBeyond_42 rfl (lv_at hl 1 rfl) ?_
  refine lv_imul hx hb dX10_isBeyond_43 ?_
  refine lv_iconst (v := (2 : Int32)) hx hb dX10_isBeyond_44 (by decide) ?_
  refine lv_iadd hx hb dX10_isBeyond_45 ?_
  obtain ⟨hi9, h⟩ := gi_at h
  refine va_iald hx hb hK hP 1 0 rfl rfl hi9 dX10_isBeyond_46 ?_
  refine lv_i2l hx hb dX10_isBeyond_47 rfl ?_
  refine lv_lmul hx hb dX10_isBeyond_48 ?_
  obtain ⟨r10, hc11, h⟩ := bd1_at h
  refine kjSI (kS0 (own := "DateSpansModel") (As := [.long (p2 * (f_this_spans (((3 : Int32) * p1) + (2 : Int32)).toNatClampNeg).toInt64)]) (rest := []) ⟨hx, hb, hml, hown, hts⟩ (kX10_isPart l N (p2 * (f_this_spans (((3 : Int32) * p1) + (2 : Int32)).toNatClampNeg).toInt64) r10 hc11) (kgS (kq q_1229 rfl) (kq q_1230 rfl) (kq q_66 rfl) (kq q_1231 rfl)) yd_X10_isPart ⟨Nat.le_of_ble_eq_true rfl, Nat.le_of_ble_eq_true rfl⟩ rfl rfl hl.1 rfl (lv_room (Nat.le_of_ble_eq_true rfl)) dX10_isBeyond_49) ?_
  refine lv_if_ne (tgt := 59) hx hb dX10_isBeyond_52 (by decide) (fun c12 => ?_) (fun c12 => ?_)
  · have h := ite_f c12 h
    refine lv_iconst (v := (0 : Int32)) hx hb dX10_isBeyond_59 (by decide) ?_
    obtain rfl := pj1 h
    exact hEnd _ _ _ _ hP hS dX10_isBeyond_60 rfl
  have h := ite_t c12 h
  refine lv_iconst (v := (1 : Int32)) hx hb dX10_isBeyond_55 (by decide) ?_
  refine lv_goto (tgt := 60) hx hb dX10_isBeyond_56 (by decide) ?_
  obtain rfl := pj1 h
  exact hEnd _ _ _ _ hP hS dX10_isBeyond_60 rfl
noncomputable def fX10_goesOne_j77 (N : Nat) (f_this_spans : Nat → Int32) (v1 : Int32) (v2 : Int32) (v4 : Int32) (v6 : Int32) (i_this : Nat → Int32) (j_this : Nat → Int64) : Option (Int32 × (Nat → Int32) × (Nat → Int64)) := (if v1 = (2 : Int32) then (if v6 = (0 : Int32) then (bd1 (fX10_instant N i_this j_this) fun r6 => (some ((0 : Int32), i_this, (vp_updL j_this 25 r6)))) else (bd2 (fX10_addsSpan N v2 (1 : Int64) v4 (0 : Int32) i_this j_this f_this_spans) fun r8 i_this_9 => (if r8 = (0 : Int32) then (bd1 (fX10_instant N i_this_9 j_this) fun r12 => (some ((0 : Int32), i_this_9, (vp_updL j_this 25 r12)))) else (bd1 (fX10_instant N i_this_9 j_this) fun r14 => (some ((1 : Int32), i_this_9, (vp_updL j_this 25 r14))))))) else (bd1 (fX10_instant N i_this j_this) fun r2 => (gz v6 (some (v6, i_this, (vp_updL j_this 25 r2))))))
noncomputable def fX10_goesOne_j46 (N : Nat) (f_this_spans : Nat → Int32) (v1 : Int32) (v2 : Int32) (v4 : Int32) (v6 : Int32) (i_this : Nat → Int32) (j_this : Nat → Int64) : Option (Int32 × (Nat → Int32) × (Nat → Int64)) := (if v1 = (1 : Int32) then (if v6 = (0 : Int32) then (fX10_goesOne_j77 N f_this_spans v1 v2 v4 (0 : Int32) i_this j_this) else (bd2 (fX10_addsSpan N v2 (-1 : Int64) v4 (0 : Int32) i_this j_this f_this_spans) fun r18 i_this_19 => (if r18 = (0 : Int32) then (fX10_goesOne_j77 N f_this_spans v1 v2 v4 (0 : Int32) i_this_19 j_this) else (fX10_goesOne_j77 N f_this_spans v1 v2 v4 (1 : Int32) i_this_19 j_this)))) else (fX10_goesOne_j77 N f_this_spans v1 v2 v4 v6 i_this j_this))
noncomputable def fX10_goesOne (N : Nat) (p1 : Int32) (p2 : Int32) (p3 : Int32) (p4 : Int32) (p5 : Int32) (i_this : Nat → Int32) (j_this : Nat → Int64) (f_this_spans : Nat → Int32) : Option (Int32 × (Nat → Int32) × (Nat → Int64)) := (bd1 (fX10_stands N p5 (0 : Int32) i_this j_this) fun i_this_22 => (bd2 (fX10_addsSpan N p2 (1 : Int64) p4 (0 : Int32) i_this_22 j_this f_this_spans) fun r24 i_this_25 => (if p1 = (0 : Int32) then (if r24 = (0 : Int32) then (fX10_goesOne_j46 N f_this_spans p1 p2 p4 (0 : Int32) i_this_25 j_this) else (bd2 (fX10_addsSpan N p3 (1 : Int64) p4 (0 : Int32) i_this_25 j_this f_this_spans) fun r29 i_this_30 => (if r29 = (0 : Int32) then (fX10_goesOne_j46 N f_this_spans p1 p2 p4 (0 : Int32) i_this_30 j_this) else (fX10_goesOne_j46 N f_this_spans p1 p2 p4 (1 : Int32) i_this_30 j_this)))) else (fX10_goesOne_j46 N f_this_spans p1 p2 p4 r24 i_this_25 j_this))))
set_option maxHeartbeats 4000000 in
set_option maxRecDepth 100000 in
theorem kX10_goesOne (l : Launch) (dC : Nat → ClassId) (dI : Nat → Nat → Nat) (cI cJ cB : ClassId) (h_this h_this_dayAt h_this_secondAt h_this_spans h_this_kept h_this_text h_this_row h_this_read h_this_many h_this_first h_this_lengths h_this_page : Nat) (N : Nat) (p1 : Int32) (p2 : Int32) (p3 : Int32) (p4 : Int32) (p5 : Int32) (i_this : Nat → Int32) (j_this : Nat → Int64) (f_this_spans : Nat → Int32) (r : Int32) (o_i_this : Nat → Int32) (o_j_this : Nat → Int64) (hf : fX10_goesOne N p1 p2 p3 p4 p5 i_this j_this f_this_spans = some (r, o_i_this, o_j_this)) : MI l yX10_goesOne (kws yX10_goesOne cX10_goesOne 7 (some .boolean)) (kR 6 150) (dC, dI) (kT cI cJ cB) [.ref h_this, .int p1, .int p2, .int p3, .int p4, .int p5] [cl_X10 h_this h_this_dayAt h_this_secondAt h_this_spans h_this_kept h_this_text h_this_row h_this_read h_this_many h_this_first h_this_lengths h_this_page i_this j_this, (h_this_spans, .inl (cI, 24, .inl f_this_spans))] [cl_X10 h_this h_this_dayAt h_this_secondAt h_this_spans h_this_kept h_this_text h_this_row h_this_read h_this_many h_this_first h_this_lengths h_this_page o_i_this o_j_this, (h_this_spans, .inl (cI, 24, .inl f_this_spans))] r := by
  refine MI.of (cc := cX10_goesOne) (maxL := 7) (by decide) (Nat.le_of_ble_eq_true rfl) (fun p e s m args below meth c A Q ls KC hN hK hP hD hA hl hEnd => ?_)
  obtain ⟨hx, hb, hml, hown, hts⟩ := KC
  have hown : s.vm.findClass "DateSpansModel" = some m.cls := hown
  have hl : lv_has ls 7 [(0, .ref h_this), (1, .int p1), (2, .int p2), (3, .int p3), (4, .int p4), (5, .int p5)] := hl
  have hS : va_S A s.heap s.heap [] := va_S.rf
  have JN_77 : ∀ (v1 : Int32) (v2 : Int32) (v4 : Int32) (v6 : Int32) (i_this : Nat → Int32) (j_this : Nat → Int64) (ls : Array Slot) (H : Heap) (locs : List Loc), (fX10_goesOne_j77 N f_this_spans) v1 v2 v4 v6 i_this j_this = some (r, o_i_this, o_j_this) → lv_has ls 7 [(0, .ref h_this), (1, .int v1), (2, .int v2), (4, .int v4), (6, .int v6)] → va_P (dC, dI) vwCl [cl_X10 h_this h_this_dayAt h_this_secondAt h_this_spans h_this_kept h_this_text h_this_row h_this_read h_this_many h_this_first h_this_lengths h_this_page i_this j_this, (h_this_spans, .inl (cI, 24, .inl f_this_spans))] H → va_D A [cl_X10 h_this h_this_dayAt h_this_secondAt h_this_spans h_this_kept h_this_text h_this_row h_this_read h_this_many h_this_first h_this_lengths h_this_page i_this j_this, (h_this_spans, .inl (cI, 24, .inl f_this_spans))] → va_S A s.heap H locs → W p l e (kR 6 150) s m args below meth c H locs 0 0 Q (F0 m 77 ls []) := by
    intro v1 v2 v4 v6 i_this j_this ls H locs h hl hP hD hS
    unfold fX10_goesOne_j77 at h
    refine lv_iload_n hx hb dX10_goesOne_77 rfl (lv_at hl 1 rfl) ?_
    refine lv_iconst (v := (2 : Int32)) hx hb dX10_goesOne_78 (by decide) ?_
    refine lv_icmp_ne (tgt := 106) hx hb dX10_goesOne_79 (by decide) (fun c1 => ?_) (fun c1 => ?_)
    · have h := ite_f c1 h
      refine lv_aload_n hx hb dX10_goesOne_106 rfl (lv_at hl 0 rfl) ?_
      refine lv_aload_n hx hb dX10_goesOne_107 rfl (lv_at hl 0 rfl) ?_
      obtain ⟨r2, hc3, h⟩ := bd1_at h
      refine kjL (kV (own := "DateSpansModel") (C := "DateSpansModel") (b := h_this) (As := []) (rest := [.ref h_this]) ⟨hx, hb, hml, hown, hts⟩ (kX10_instant l dC dI cI cJ cB h_this h_this_dayAt h_this_secondAt h_this_spans h_this_kept h_this_text h_this_row h_this_read h_this_many h_this_first h_this_lengths h_this_page N i_this j_this r2 hc3 _) (kgV (kq q_1352 rfl) (kq q_1354 rfl) (kq q_42 rfl) (kq q_66 rfl) (kq q_1355 rfl)) yd_X10_instant ⟨Nat.le_of_ble_eq_true rfl, Nat.le_of_ble_eq_true rfl⟩ hN hK hP hD [0] rfl rfl (ci := 9) rfl rfl rfl rfl rfl hl.1 rfl (lv_room (Nat.le_of_ble_eq_true rfl)) dX10_goesOne_108) hP hD hS hA [0] rfl rfl (fun H locs hP hD hS => ?_)
      have hP : va_P (dC, dI) vwCl [cl_X10 h_this h_this_dayAt h_this_secondAt h_this_spans h_this_kept h_this_text h_this_row h_this_read h_this_many h_this_first h_this_lengths h_this_page i_this j_this, (h_this_spans, .inl (cI, 24, .inl f_this_spans))] H := hP
      have hD : va_D A [cl_X10 h_this h_this_dayAt h_this_secondAt h_this_spans h_this_kept h_this_text h_this_row h_this_read h_this_many h_this_first h_this_lengths h_this_page i_this j_this, (h_this_spans, .inl (cI, 24, .inl f_this_spans))] := hD
      refine va_put (D := (dC, dI)) (ci := 9) (v := .long r2) (ty := .long) (C := RX10) (T := TX10) (N := 29) hx hb hts inX10 tyX10 tyX10_ok nmX10 hown hK hP hD hS 0 rfl rfl 25 (by decide) (hts _ (kq q_1011 rfl)) (fun _ h9 => h9) rfl (by decide +kernel) rfl rfl (Nat.le_of_ble_eq_true rfl) dX10_goesOne_111 (fun H locs hP hD hS => ?_)
      have hP : va_P (dC, dI) vwCl [(h_this, .inr (9, [.ref h_this_dayAt, .ref h_this_secondAt, .ref h_this_spans, .ref h_this_kept, .int (i_this 4), .ref h_this_text, .int (i_this 6), .ref h_this_row, .int (i_this 8), .int (i_this 9), .int (i_this 10), .int (i_this 11), .int (i_this 12), .int (i_this 13), .int (i_this 14), .int (i_this 15), .int (i_this 16), .int (i_this 17), .int (i_this 18), .ref h_this_read, .long (j_this 20), .ref h_this_many, .ref h_this_first, .ref h_this_lengths, .int (i_this 24), .long r2, .long (j_this 26), .ref h_this_page, .int (i_this 28)])), (h_this_spans, .inl (cI, 24, .inl f_this_spans))] H := hP
      have hD : va_D A [(h_this, .inr (9, [.ref h_this_dayAt, .ref h_this_secondAt, .ref h_this_spans, .ref h_this_kept, .int (i_this 4), .ref h_this_text, .int (i_this 6), .ref h_this_row, .int (i_this 8), .int (i_this 9), .int (i_this 10), .int (i_this 11), .int (i_this 12), .int (i_this 13), .int (i_this 14), .int (i_this 15), .int (i_this 16), .int (i_this 17), .int (i_this 18), .ref h_this_read, .long (j_this 20), .ref h_this_many, .ref h_this_first, .ref h_this_lengths, .int (i_this 24), .long r2, .long (j_this 26), .ref h_this_page, .int (i_this 28)])), (h_this_spans, .inl (cI, 24, .inl f_this_spans))] := hD
      refine lv_iload hx hb dX10_goesOne_114 (lv_at hl 4 rfl) ?_
      have hP : va_P (dC, dI) vwCl [cl_X10 h_this h_this_dayAt h_this_secondAt h_this_spans h_this_kept h_this_text h_this_row h_this_read h_this_many h_this_first h_this_lengths h_this_page i_this (vp_updL j_this 25 r2), (h_this_spans, .inl (cI, 24, .inl f_this_spans))] H := hP
      have hD : va_D A [cl_X10 h_this h_this_dayAt h_this_secondAt h_this_spans h_this_kept h_this_text h_this_row h_this_read h_this_many h_this_first h_this_lengths h_this_page i_this (vp_updL j_this 25 r2), (h_this_spans, .inl (cI, 24, .inl f_this_spans))] := hD
      obtain ⟨hz4, h⟩ := gz_at h
      obtain ⟨rfl, rfl, rfl⟩ := pj3 h
      exact hEnd _ _ _ _ hP hS dX10_goesOne_116 hz4
    have h := ite_t c1 h
    refine lv_iload hx hb dX10_goesOne_82 (lv_at hl 4 rfl) ?_
    refine lv_if_eq (tgt := 103) hx hb dX10_goesOne_84 (by decide) (fun c5 => ?_) (fun c5 => ?_)
    · have h := ite_t c5 h
      refine lv_iconst (v := (0 : Int32)) hx hb dX10_goesOne_103 (by decide) ?_
      refine lv_istore (lv' := [(6, .int (0 : Int32)), (0, .ref h_this), (1, .int v1), (2, .int v2), (4, .int v4)]) hx hb dX10_goesOne_104 hl (by decide) rfl (fun ls hl => ?_)
      refine lv_aload_n hx hb dX10_goesOne_106 rfl (lv_at hl 1 rfl) ?_
      refine lv_aload_n hx hb dX10_goesOne_107 rfl (lv_at hl 1 rfl) ?_
      obtain ⟨r6, hc7, h⟩ := bd1_at h
      refine kjL (kV (own := "DateSpansModel") (C := "DateSpansModel") (b := h_this) (As := []) (rest := [.ref h_this]) ⟨hx, hb, hml, hown, hts⟩ (kX10_instant l dC dI cI cJ cB h_this h_this_dayAt h_this_secondAt h_this_spans h_this_kept h_this_text h_this_row h_this_read h_this_many h_this_first h_this_lengths h_this_page N i_this j_this r6 hc7 _) (kgV (kq q_1352 rfl) (kq q_1354 rfl) (kq q_42 rfl) (kq q_66 rfl) (kq q_1355 rfl)) yd_X10_instant ⟨Nat.le_of_ble_eq_true rfl, Nat.le_of_ble_eq_true rfl⟩ hN hK hP hD [0] rfl rfl (ci := 9) rfl rfl rfl rfl rfl hl.1 rfl (lv_room (Nat.le_of_ble_eq_true rfl)) dX10_goesOne_108) hP hD hS hA [0] rfl rfl (fun H locs hP hD hS => ?_)
      have hP : va_P (dC, dI) vwCl [cl_X10 h_this h_this_dayAt h_this_secondAt h_this_spans h_this_kept h_this_text h_this_row h_this_read h_this_many h_this_first h_this_lengths h_this_page i_this j_this, (h_this_spans, .inl (cI, 24, .inl f_this_spans))] H := hP
      have hD : va_D A [cl_X10 h_this h_this_dayAt h_this_secondAt h_this_spans h_this_kept h_this_text h_this_row h_this_read h_this_many h_this_first h_this_lengths h_this_page i_this j_this, (h_this_spans, .inl (cI, 24, .inl f_this_spans))] := hD
      refine va_put (D := (dC, dI)) (ci := 9) (v := .long r6) (ty := .long) (C := RX10) (T := TX10) (N := 29) hx hb hts inX10 tyX10 tyX10_ok nmX10 hown hK hP hD hS 0 rfl rfl 25 (by decide) (hts _ (kq q_1011 rfl)) (fun _ h9 => h9) rfl (by decide +kernel) rfl rfl (Nat.le_of_ble_eq_true rfl) dX10_goesOne_111 (fun H locs hP hD hS => ?_)
      have hP : va_P (dC, dI) vwCl [(h_this, .inr (9, [.ref h_this_dayAt, .ref h_this_secondAt, .ref h_this_spans, .ref h_this_kept, .int (i_this 4), .ref h_this_text, .int (i_this 6), .ref h_this_row, .int (i_this 8), .int (i_this 9), .int (i_this 10), .int (i_this 11), .int (i_this 12), .int (i_this 13), .int (i_this 14), .int (i_this 15), .int (i_this 16), .int (i_this 17), .int (i_this 18), .ref h_this_read, .long (j_this 20), .ref h_this_many, .ref h_this_first, .ref h_this_lengths, .int (i_this 24), .long r6, .long (j_this 26), .ref h_this_page, .int (i_this 28)])), (h_this_spans, .inl (cI, 24, .inl f_this_spans))] H := hP
      have hD : va_D A [(h_this, .inr (9, [.ref h_this_dayAt, .ref h_this_secondAt, .ref h_this_spans, .ref h_this_kept, .int (i_this 4), .ref h_this_text, .int (i_this 6), .ref h_this_row, .int (i_this 8), .int (i_this 9), .int (i_this 10), .int (i_this 11), .int (i_this 12), .int (i_this 13), .int (i_this 14), .int (i_this 15), .int (i_this 16), .int (i_this 17), .int (i_this 18), .ref h_this_read, .long (j_this 20), .ref h_this_many, .ref h_this_first, .ref h_this_lengths, .int (i_this 24), .long r6, .long (j_this 26), .ref h_this_page, .int (i_this 28)])), (h_this_spans, .inl (cI, 24, .inl f_this_spans))] := hD
      refine lv_iload hx hb dX10_goesOne_114 (lv_at hl 0 rfl) ?_
      have hP : va_P (dC, dI) vwCl [cl_X10 h_this h_this_dayAt h_this_secondAt h_this_spans h_this_kept h_this_text h_this_row h_this_read h_this_many h_this_first h_this_lengths h_this_page i_this (vp_updL j_this 25 r6), (h_this_spans, .inl (cI, 24, .inl f_this_spans))] H := hP
      have hD : va_D A [cl_X10 h_this h_this_dayAt h_this_secondAt h_this_spans h_this_kept h_this_text h_this_row h_this_read h_this_many h_this_first h_this_lengths h_this_page i_this (vp_updL j_this 25 r6), (h_this_spans, .inl (cI, 24, .inl f_this_spans))] := hD
      obtain ⟨rfl, rfl, rfl⟩ := pj3 h
      exact hEnd _ _ _ _ hP hS dX10_goesOne_116 rfl
    have h := ite_f c5 h
    refine lv_aload_n hx hb dX10_goesOne_87 rfl (lv_at hl 0 rfl) ?_
    refine lv_iload_n hx hb dX10_goesOne_88 rfl (lv_at hl 2 rfl) ?_
    refine lv_lconst (v := (1 : Int64)) hx hb dX10_goesOne_89 (by decide) ?_
    refine lv_iload hx hb dX10_goesOne_90 (lv_at hl 3 rfl) ?_
    refine lv_iconst (v := (0 : Int32)) hx hb dX10_goesOne_92 (by decide) ?_
    obtain ⟨r8, i_this_9, hc10, h⟩ := bd2_at h
    refine kjI (kV (own := "DateSpansModel") (C := "DateSpansModel") (b := h_this) (As := [.int v2, .long (1 : Int64), .int v4, .int (0 : Int32)]) (rest := []) ⟨hx, hb, hml, hown, hts⟩ (kX10_addsSpan l dC dI cI cJ cB h_this h_this_dayAt h_this_secondAt h_this_spans h_this_kept h_this_text h_this_row h_this_read h_this_many h_this_first h_this_lengths h_this_page N v2 (1 : Int64) v4 (0 : Int32) i_this j_this f_this_spans r8 i_this_9 hc10 _) (kgV (kq q_1286 rfl) (kq q_1288 rfl) (kq q_33 rfl) (kq q_66 rfl) (kq q_1289 rfl)) yd_X10_addsSpan ⟨Nat.le_of_ble_eq_true rfl, Nat.le_of_ble_eq_true rfl⟩ hN hK hP hD [0, 1] rfl rfl (ci := 9) rfl rfl rfl rfl rfl hl.1 rfl (lv_room (Nat.le_of_ble_eq_true rfl)) dX10_goesOne_93) hP hD hS hA [0, 1] rfl rfl (fun H locs hP hD hS => ?_)
    have hP : va_P (dC, dI) vwCl [cl_X10 h_this h_this_dayAt h_this_secondAt h_this_spans h_this_kept h_this_text h_this_row h_this_read h_this_many h_this_first h_this_lengths h_this_page i_this_9 j_this, (h_this_spans, .inl (cI, 24, .inl f_this_spans))] H := hP
    have hD : va_D A [cl_X10 h_this h_this_dayAt h_this_secondAt h_this_spans h_this_kept h_this_text h_this_row h_this_read h_this_many h_this_first h_this_lengths h_this_page i_this_9 j_this, (h_this_spans, .inl (cI, 24, .inl f_this_spans))] := hD
    refine lv_if_eq (tgt := 103) hx hb dX10_goesOne_96 (by decide) (fun c11 => ?_) (fun c11 => ?_)
    · have h := ite_t c11 h
      refine lv_iconst (v := (0 : Int32)) hx hb dX10_goesOne_103 (by decide) ?_
      refine lv_istore (lv' := [(6, .int (0 : Int32)), (0, .ref h_this), (1, .int v1), (2, .int v2), (4, .int v4)]) hx hb dX10_goesOne_104 hl (by decide) rfl (fun ls hl => ?_)
      refine lv_aload_n hx hb dX10_goesOne_106 rfl (lv_at hl 1 rfl) ?_
      refine lv_aload_n hx hb dX10_goesOne_107 rfl (lv_at hl 1 rfl) ?_
      obtain ⟨r12, hc13, h⟩ := bd1_at h
      refine kjL (kV (own := "DateSpansModel") (C := "DateSpansModel") (b := h_this) (As := []) (rest := [.ref h_this]) ⟨hx, hb, hml, hown, hts⟩ (kX10_instant l dC dI cI cJ cB h_this h_this_dayAt h_this_secondAt h_this_spans h_this_kept h_this_text h_this_row h_this_read h_this_many h_this_first h_this_lengths h_this_page N i_this_9 j_this r12 hc13 _) (kgV (kq q_1352 rfl) (kq q_1354 rfl) (kq q_42 rfl) (kq q_66 rfl) (kq q_1355 rfl)) yd_X10_instant ⟨Nat.le_of_ble_eq_true rfl, Nat.le_of_ble_eq_true rfl⟩ hN hK hP hD [0] rfl rfl (ci := 9) rfl rfl rfl rfl rfl hl.1 rfl (lv_room (Nat.le_of_ble_eq_true rfl)) dX10_goesOne_108) hP hD hS hA [0] rfl rfl (fun H locs hP hD hS => ?_)
      have hP : va_P (dC, dI) vwCl [cl_X10 h_this h_this_dayAt h_this_secondAt h_this_spans h_this_kept h_this_text h_this_row h_this_read h_this_many h_this_first h_this_lengths h_this_page i_this_9 j_this, (h_this_spans, .inl (cI, 24, .inl f_this_spans))] H := hP
      have hD : va_D A [cl_X10 h_this h_this_dayAt h_this_secondAt h_this_spans h_this_kept h_this_text h_this_row h_this_read h_this_many h_this_first h_this_lengths h_this_page i_this_9 j_this, (h_this_spans, .inl (cI, 24, .inl f_this_spans))] := hD
      refine va_put (D := (dC, dI)) (ci := 9) (v := .long r12) (ty := .long) (C := RX10) (T := TX10) (N := 29) hx hb hts inX10 tyX10 tyX10_ok nmX10 hown hK hP hD hS 0 rfl rfl 25 (by decide) (hts _ (kq q_1011 rfl)) (fun _ h9 => h9) rfl (by decide +kernel) rfl rfl (Nat.le_of_ble_eq_true rfl) dX10_goesOne_111 (fun H locs hP hD hS => ?_)
      have hP : va_P (dC, dI) vwCl [(h_this, .inr (9, [.ref h_this_dayAt, .ref h_this_secondAt, .ref h_this_spans, .ref h_this_kept, .int (i_this_9 4), .ref h_this_text, .int (i_this_9 6), .ref h_this_row, .int (i_this_9 8), .int (i_this_9 9), .int (i_this_9 10), .int (i_this_9 11), .int (i_this_9 12), .int (i_this_9 13), .int (i_this_9 14), .int (i_this_9 15), .int (i_this_9 16), .int (i_this_9 17), .int (i_this_9 18), .ref h_this_read, .long (j_this 20), .ref h_this_many, .ref h_this_first, .ref h_this_lengths, .int (i_this_9 24), .long r12, .long (j_this 26), .ref h_this_page, .int (i_this_9 28)])), (h_this_spans, .inl (cI, 24, .inl f_this_spans))] H := hP
      have hD : va_D A [(h_this, .inr (9, [.ref h_this_dayAt, .ref h_this_secondAt, .ref h_this_spans, .ref h_this_kept, .int (i_this_9 4), .ref h_this_text, .int (i_this_9 6), .ref h_this_row, .int (i_this_9 8), .int (i_this_9 9), .int (i_this_9 10), .int (i_this_9 11), .int (i_this_9 12), .int (i_this_9 13), .int (i_this_9 14), .int (i_this_9 15), .int (i_this_9 16), .int (i_this_9 17), .int (i_this_9 18), .ref h_this_read, .long (j_this 20), .ref h_this_many, .ref h_this_first, .ref h_this_lengths, .int (i_this_9 24), .long r12, .long (j_this 26), .ref h_this_page, .int (i_this_9 28)])), (h_this_spans, .inl (cI, 24, .inl f_this_spans))] := hD
      refine lv_iload hx hb dX10_goesOne_114 (lv_at hl 0 rfl) ?_
      have hP : va_P (dC, dI) vwCl [cl_X10 h_this h_this_dayAt h_this_secondAt h_this_spans h_this_kept h_this_text h_this_row h_this_read h_this_many h_this_first h_this_lengths h_this_page i_this_9 (vp_updL j_this 25 r12), (h_this_spans, .inl (cI, 24, .inl f_this_spans))] H := hP
      have hD : va_D A [cl_X10 h_this h_this_dayAt h_this_secondAt h_this_spans h_this_kept h_this_text h_this_row h_this_read h_this_many h_this_first h_this_lengths h_this_page i_this_9 (vp_updL j_this 25 r12), (h_this_spans, .inl (cI, 24, .inl f_this_spans))] := hD
      obtain ⟨rfl, rfl, rfl⟩ := pj3 h
      exact hEnd _ _ _ _ hP hS dX10_goesOne_116 rfl
    have h := ite_f c11 h
    refine lv_iconst (v := (1 : Int32)) hx hb dX10_goesOne_99 (by decide) ?_
    refine lv_goto (tgt := 104) hx hb dX10_goesOne_100 (by decide) ?_
    refine lv_istore (lv' := [(6, .int (1 : Int32)), (0, .ref h_this), (1, .int v1), (2, .int v2), (4, .int v4)]) hx hb dX10_goesOne_104 hl (by decide) rfl (fun ls hl => ?_)
    refine lv_aload_n hx hb dX10_goesOne_106 rfl (lv_at hl 1 rfl) ?_
    refine lv_aload_n hx hb dX10_goesOne_107 rfl (lv_at hl 1 rfl) ?_
    obtain ⟨r14, hc15, h⟩ := bd1_at h
    refine kjL (kV (own := "DateSpansModel") (C := "DateSpansModel") (b := h_this) (As := []) (rest := [.ref h_this]) ⟨hx, hb, hml, hown, hts⟩ (kX10_instant l dC dI cI cJ cB h_this h_this_dayAt h_this_secondAt h_this_spans h_this_kept h_this_text h_this_row h_this_read h_this_many h_this_first h_this_lengths h_this_page N i_this_9 j_this r14 hc15 _) (kgV (kq q_1352 rfl) (kq q_1354 rfl) (kq q_42 rfl) (kq q_66 rfl) (kq q_1355 rfl)) yd_X10_instant ⟨Nat.le_of_ble_eq_true rfl, Nat.le_of_ble_eq_true rfl⟩ hN hK hP hD [0] rfl rfl (ci := 9) rfl rfl rfl rfl rfl hl.1 rfl (lv_room (Nat.le_of_ble_eq_true rfl)) dX10_goesOne_108) hP hD hS hA [0] rfl rfl (fun H locs hP hD hS => ?_)
    have hP : va_P (dC, dI) vwCl [cl_X10 h_this h_this_dayAt h_this_secondAt h_this_spans h_this_kept h_this_text h_this_row h_this_read h_this_many h_this_first h_this_lengths h_this_page i_this_9 j_this, (h_this_spans, .inl (cI, 24, .inl f_this_spans))] H := hP
    have hD : va_D A [cl_X10 h_this h_this_dayAt h_this_secondAt h_this_spans h_this_kept h_this_text h_this_row h_this_read h_this_many h_this_first h_this_lengths h_this_page i_this_9 j_this, (h_this_spans, .inl (cI, 24, .inl f_this_spans))] := hD
    refine va_put (D := (dC, dI)) (ci := 9) (v := .long r14) (ty := .long) (C := RX10) (T := TX10) (N := 29) hx hb hts inX10 tyX10 tyX10_ok nmX10 hown hK hP hD hS 0 rfl rfl 25 (by decide) (hts _ (kq q_1011 rfl)) (fun _ h9 => h9) rfl (by decide +kernel) rfl rfl (Nat.le_of_ble_eq_true rfl) dX10_goesOne_111 (fun H locs hP hD hS => ?_)
    have hP : va_P (dC, dI) vwCl [(h_this, .inr (9, [.ref h_this_dayAt, .ref h_this_secondAt, .ref h_this_spans, .ref h_this_kept, .int (i_this_9 4), .ref h_this_text, .int (i_this_9 6), .ref h_this_row, .int (i_this_9 8), .int (i_this_9 9), .int (i_this_9 10), .int (i_this_9 11), .int (i_this_9 12), .int (i_this_9 13), .int (i_this_9 14), .int (i_this_9 15), .int (i_this_9 16), .int (i_this_9 17), .int (i_this_9 18), .ref h_this_read, .long (j_this 20), .ref h_this_many, .ref h_this_first, .ref h_this_lengths, .int (i_this_9 24), .long r14, .long (j_this 26), .ref h_this_page, .int (i_this_9 28)])), (h_this_spans, .inl (cI, 24, .inl f_this_spans))] H := hP
    have hD : va_D A [(h_this, .inr (9, [.ref h_this_dayAt, .ref h_this_secondAt, .ref h_this_spans, .ref h_this_kept, .int (i_this_9 4), .ref h_this_text, .int (i_this_9 6), .ref h_this_row, .int (i_this_9 8), .int (i_this_9 9), .int (i_this_9 10), .int (i_this_9 11), .int (i_this_9 12), .int (i_this_9 13), .int (i_this_9 14), .int (i_this_9 15), .int (i_this_9 16), .int (i_this_9 17), .int (i_this_9 18), .ref h_this_read, .long (j_this 20), .ref h_this_many, .ref h_this_first, .ref h_this_lengths, .int (i_this_9 24), .long r14, .long (j_this 26), .ref h_this_page, .int (i_this_9 28)])), (h_this_spans, .inl (cI, 24, .inl f_this_spans))] := hD
    refine lv_iload hx hb dX10_goesOne_114 (lv_at hl 0 rfl) ?_
    have hP : va_P (dC, dI) vwCl [cl_X10 h_this h_this_dayAt h_this_secondAt h_this_spans h_this_kept h_this_text h_this_row h_this_read h_this_many h_this_first h_this_lengths h_this_page i_this_9 (vp_updL j_this 25 r14), (h_this_spans, .inl (cI, 24, .inl f_this_spans))] H := hP
    have hD : va_D A [cl_X10 h_this h_this_dayAt h_this_secondAt h_this_spans h_this_kept h_this_text h_this_row h_this_read h_this_many h_this_first h_this_lengths h_this_page i_this_9 (vp_updL j_this 25 r14), (h_this_spans, .inl (cI, 24, .inl f_this_spans))] := hD
    obtain ⟨rfl, rfl, rfl⟩ := pj3 h
    exact hEnd _ _ _ _ hP hS dX10_goesOne_116 rfl
  have JN_46 : ∀ (v1 : Int32) (v2 : Int32) (v4 : Int32) (v6 : Int32) (i_this : Nat → Int32) (j_this : Nat → Int64) (ls : Array Slot) (H : Heap) (locs : List Loc), (fX10_goesOne_j46 N f_this_spans) v1 v2 v4 v6 i_this j_this = some (r, o_i_this, o_j_this) → lv_has ls 7 [(0, .ref h_this), (1, .int v1), (2, .int v2), (4, .int v4), (6, .int v6)] → va_P (dC, dI) vwCl [cl_X10 h_this h_this_dayAt h_this_secondAt h_this_spans h_this_kept h_this_text h_this_row h_this_read h_this_many h_this_first h_this_lengths h_this_page i_this j_this, (h_this_spans, .inl (cI, 24, .inl f_this_spans))] H → va_D A [cl_X10 h_this h_this_dayAt h_this_secondAt h_this_spans h_this_kept h_this_text h_this_row h_this_read h_this_many h_this_first h_this_lengths h_this_page i_this j_this, (h_this_spans, .inl (cI, 24, .inl f_this_spans))] → va_S A s.heap H locs → W p l e (kR 6 150) s m args below meth c H locs 0 0 Q (F0 m 46 ls []) := by
    intro v1 v2 v4 v6 i_this j_this ls H locs h hl hP hD hS
    unfold fX10_goesOne_j46 at h
    refine lv_iload_n hx hb dX10_goesOne_46 rfl (lv_at hl 1 rfl) ?_
    refine lv_iconst (v := (1 : Int32)) hx hb dX10_goesOne_47 (by decide) ?_
    refine lv_icmp_ne (tgt := 77) hx hb dX10_goesOne_48 (by decide) (fun c16 => ?_) (fun c16 => ?_)
    · have h := ite_f c16 h
      exact JN_77 _ _ _ _ _ _ _ _ _ h (lv_sub hl [0, 1, 2, 3, 4] rfl) hP hD hS
    have h := ite_t c16 h
    refine lv_iload hx hb dX10_goesOne_51 (lv_at hl 4 rfl) ?_
    refine lv_if_eq (tgt := 74) hx hb dX10_goesOne_53 (by decide) (fun c17 => ?_) (fun c17 => ?_)
    · have h := ite_t c17 h
      refine lv_iconst (v := (0 : Int32)) hx hb dX10_goesOne_74 (by decide) ?_
      refine lv_istore (lv' := [(6, .int (0 : Int32)), (0, .ref h_this), (1, .int v1), (2, .int v2), (4, .int v4)]) hx hb dX10_goesOne_75 hl (by decide) rfl (fun ls hl => ?_)
      exact JN_77 _ _ _ _ _ _ _ _ _ h (lv_sub hl [1, 2, 3, 4, 0] rfl) hP hD hS
    have h := ite_f c17 h
    refine lv_aload_n hx hb dX10_goesOne_56 rfl (lv_at hl 0 rfl) ?_
    refine lv_iload_n hx hb dX10_goesOne_57 rfl (lv_at hl 2 rfl) ?_
    refine lv_ldc2 (v := (-1 : Int64)) hx hb hown (hts _ (kq q_1363 rfl)) dX10_goesOne_58 ?_
    refine lv_iload hx hb dX10_goesOne_61 (lv_at hl 3 rfl) ?_
    refine lv_iconst (v := (0 : Int32)) hx hb dX10_goesOne_63 (by decide) ?_
    obtain ⟨r18, i_this_19, hc20, h⟩ := bd2_at h
    refine kjI (kV (own := "DateSpansModel") (C := "DateSpansModel") (b := h_this) (As := [.int v2, .long (-1 : Int64), .int v4, .int (0 : Int32)]) (rest := []) ⟨hx, hb, hml, hown, hts⟩ (kX10_addsSpan l dC dI cI cJ cB h_this h_this_dayAt h_this_secondAt h_this_spans h_this_kept h_this_text h_this_row h_this_read h_this_many h_this_first h_this_lengths h_this_page N v2 (-1 : Int64) v4 (0 : Int32) i_this j_this f_this_spans r18 i_this_19 hc20 _) (kgV (kq q_1286 rfl) (kq q_1288 rfl) (kq q_33 rfl) (kq q_66 rfl) (kq q_1289 rfl)) yd_X10_addsSpan ⟨Nat.le_of_ble_eq_true rfl, Nat.le_of_ble_eq_true rfl⟩ hN hK hP hD [0, 1] rfl rfl (ci := 9) rfl rfl rfl rfl rfl hl.1 rfl (lv_room (Nat.le_of_ble_eq_true rfl)) dX10_goesOne_64) hP hD hS hA [0, 1] rfl rfl (fun H locs hP hD hS => ?_)
    have hP : va_P (dC, dI) vwCl [cl_X10 h_this h_this_dayAt h_this_secondAt h_this_spans h_this_kept h_this_text h_this_row h_this_read h_this_many h_this_first h_this_lengths h_this_page i_this_19 j_this, (h_this_spans, .inl (cI, 24, .inl f_this_spans))] H := hP
    have hD : va_D A [cl_X10 h_this h_this_dayAt h_this_secondAt h_this_spans h_this_kept h_this_text h_this_row h_this_read h_this_many h_this_first h_this_lengths h_this_page i_this_19 j_this, (h_this_spans, .inl (cI, 24, .inl f_this_spans))] := hD
    refine lv_if_eq (tgt := 74) hx hb dX10_goesOne_67 (by decide) (fun c21 => ?_) (fun c21 => ?_)
    · have h := ite_t c21 h
      refine lv_iconst (v := (0 : Int32)) hx hb dX10_goesOne_74 (by decide) ?_
      refine lv_istore (lv' := [(6, .int (0 : Int32)), (0, .ref h_this), (1, .int v1), (2, .int v2), (4, .int v4)]) hx hb dX10_goesOne_75 hl (by decide) rfl (fun ls hl => ?_)
      exact JN_77 _ _ _ _ _ _ _ _ _ h (lv_sub hl [1, 2, 3, 4, 0] rfl) hP hD hS
    have h := ite_f c21 h
    refine lv_iconst (v := (1 : Int32)) hx hb dX10_goesOne_70 (by decide) ?_
    refine lv_goto (tgt := 75) hx hb dX10_goesOne_71 (by decide) ?_
    refine lv_istore (lv' := [(6, .int (1 : Int32)), (0, .ref h_this), (1, .int v1), (2, .int v2), (4, .int v4)]) hx hb dX10_goesOne_75 hl (by decide) rfl (fun ls hl => ?_)
    exact JN_77 _ _ _ _ _ _ _ _ _ h (lv_sub hl [1, 2, 3, 4, 0] rfl) hP hD hS
  have h := hf
  unfold fX10_goesOne at h
  refine lv_aload_n hx hb dX10_goesOne_0 rfl (lv_at hl 0 rfl) ?_
  refine lv_iload hx hb dX10_goesOne_1 (lv_at hl 5 rfl) ?_
  refine lv_iconst (v := (0 : Int32)) hx hb dX10_goesOne_3 (by decide) ?_
  obtain ⟨i_this_22, hc23, h⟩ := bd1_at h
  refine kjV (kV (own := "DateSpansModel") (C := "DateSpansModel") (b := h_this) (As := [.int p5, .int (0 : Int32)]) (rest := []) ⟨hx, hb, hml, hown, hts⟩ (kX10_stands l dC dI cI cJ cB h_this h_this_dayAt h_this_secondAt h_this_spans h_this_kept h_this_text h_this_row h_this_read h_this_many h_this_first h_this_lengths h_this_page N p5 (0 : Int32) i_this j_this i_this_22 hc23 _) (kgV (kq q_1136 rfl) (kq q_1138 rfl) (kq q_24 rfl) (kq q_66 rfl) (kq q_1139 rfl)) yd_X10_stands ⟨Nat.le_of_ble_eq_true rfl, Nat.le_of_ble_eq_true rfl⟩ hN hK hP hD [0] rfl rfl (ci := 9) rfl rfl rfl rfl rfl hl.1 rfl (lv_room (Nat.le_of_ble_eq_true rfl)) dX10_goesOne_4) hP hD hS hA [0] rfl rfl (fun H locs hP hD hS => ?_)
  have hP : va_P (dC, dI) vwCl [cl_X10 h_this h_this_dayAt h_this_secondAt h_this_spans h_this_kept h_this_text h_this_row h_this_read h_this_many h_this_first h_this_lengths h_this_page i_this_22 j_this, (h_this_spans, .inl (cI, 24, .inl f_this_spans))] H := hP
  have hD : va_D A [cl_X10 h_this h_this_dayAt h_this_secondAt h_this_spans h_this_kept h_this_text h_this_row h_this_read h_this_many h_this_first h_this_lengths h_this_page i_this_22 j_this, (h_this_spans, .inl (cI, 24, .inl f_this_spans))] := hD
  refine lv_aload_n hx hb dX10_goesOne_7 rfl (lv_at hl 0 rfl) ?_
  refine lv_iload_n hx hb dX10_goesOne_8 rfl (lv_at hl 2 rfl) ?_
  refine lv_lconst (v := (1 : Int64)) hx hb dX10_goesOne_9 (by decide) ?_
  refine lv_iload hx hb dX10_goesOne_10 (lv_at hl 4 rfl) ?_
  refine lv_iconst (v := (0 : Int32)) hx hb dX10_goesOne_12 (by decide) ?_
  obtain ⟨r24, i_this_25, hc26, h⟩ := bd2_at h
  refine kjI (kV (own := "DateSpansModel") (C := "DateSpansModel") (b := h_this) (As := [.int p2, .long (1 : Int64), .int p4, .int (0 : Int32)]) (rest := []) ⟨hx, hb, hml, hown, hts⟩ (kX10_addsSpan l dC dI cI cJ cB h_this h_this_dayAt h_this_secondAt h_this_spans h_this_kept h_this_text h_this_row h_this_read h_this_many h_this_first h_this_lengths h_this_page N p2 (1 : Int64) p4 (0 : Int32) i_this_22 j_this f_this_spans r24 i_this_25 hc26 _) (kgV (kq q_1286 rfl) (kq q_1288 rfl) (kq q_33 rfl) (kq q_66 rfl) (kq q_1289 rfl)) yd_X10_addsSpan ⟨Nat.le_of_ble_eq_true rfl, Nat.le_of_ble_eq_true rfl⟩ hN hK hP hD [0, 1] rfl rfl (ci := 9) rfl rfl rfl rfl rfl hl.1 rfl (lv_room (Nat.le_of_ble_eq_true rfl)) dX10_goesOne_13) hP hD hS hA [0, 1] rfl rfl (fun H locs hP hD hS => ?_)
  have hP : va_P (dC, dI) vwCl [cl_X10 h_this h_this_dayAt h_this_secondAt h_this_spans h_this_kept h_this_text h_this_row h_this_read h_this_many h_this_first h_this_lengths h_this_page i_this_25 j_this, (h_this_spans, .inl (cI, 24, .inl f_this_spans))] H := hP
  have hD : va_D A [cl_X10 h_this h_this_dayAt h_this_secondAt h_this_spans h_this_kept h_this_text h_this_row h_this_read h_this_many h_this_first h_this_lengths h_this_page i_this_25 j_this, (h_this_spans, .inl (cI, 24, .inl f_this_spans))] := hD
  refine lv_istore (lv' := [(6, .int r24), (0, .ref h_this), (1, .int p1), (2, .int p2), (3, .int p3), (4, .int p4), (5, .int p5)]) hx hb dX10_goesOne_16 hl (by decide) rfl (fun ls hl => ?_)
  refine lv_iload_n hx hb dX10_goesOne_18 rfl (lv_at hl 2 rfl) ?_
  refine lv_if_ne (tgt := 46) hx hb dX10_goesOne_19 (by decide) (fun c27 => ?_) (fun c27 => ?_)
  · have h := ite_f c27 h
    exact JN_46 _ _ _ _ _ _ _ _ _ h (lv_sub hl [1, 2, 3, 5, 0] rfl) hP hD hS
  have h := ite_t c27 h
  refine lv_iload hx hb dX10_goesOne_22 (lv_at hl 0 rfl) ?_
  refine lv_if_eq (tgt := 43) hx hb dX10_goesOne_24 (by decide) (fun c28 => ?_) (fun c28 => ?_)
  · have h := ite_t c28 h
    refine lv_iconst (v := (0 : Int32)) hx hb dX10_goesOne_43 (by decide) ?_
    refine lv_istore (lv' := [(6, .int (0 : Int32)), (0, .ref h_this), (1, .int p1), (2, .int p2), (3, .int p3), (4, .int p4), (5, .int p5)]) hx hb dX10_goesOne_44 hl (by decide) rfl (fun ls hl => ?_)
    exact JN_46 _ _ _ _ _ _ _ _ _ h (lv_sub hl [1, 2, 3, 5, 0] rfl) hP hD hS
  have h := ite_f c28 h
  refine lv_aload_n hx hb dX10_goesOne_27 rfl (lv_at hl 1 rfl) ?_
  refine lv_iload_n hx hb dX10_goesOne_28 rfl (lv_at hl 4 rfl) ?_
  refine lv_lconst (v := (1 : Int64)) hx hb dX10_goesOne_29 (by decide) ?_
  refine lv_iload hx hb dX10_goesOne_30 (lv_at hl 5 rfl) ?_
  refine lv_iconst (v := (0 : Int32)) hx hb dX10_goesOne_32 (by decide) ?_
  obtain ⟨r29, i_this_30, hc31, h⟩ := bd2_at h
  refine kjI (kV (own := "DateSpansModel") (C := "DateSpansModel") (b := h_this) (As := [.int p3, .long (1 : Int64), .int p4, .int (0 : Int32)]) (rest := []) ⟨hx, hb, hml, hown, hts⟩ (kX10_addsSpan l dC dI cI cJ cB h_this h_this_dayAt h_this_secondAt h_this_spans h_this_kept h_this_text h_this_row h_this_read h_this_many h_this_first h_this_lengths h_this_page N p3 (1 : Int64) p4 (0 : Int32) i_this_25 j_this f_this_spans r29 i_this_30 hc31 _) (kgV (kq q_1286 rfl) (kq q_1288 rfl) (kq q_33 rfl) (kq q_66 rfl) (kq q_1289 rfl)) yd_X10_addsSpan ⟨Nat.le_of_ble_eq_true rfl, Nat.le_of_ble_eq_true rfl⟩ hN hK hP hD [0, 1] rfl rfl (ci := 9) rfl rfl rfl rfl rfl hl.1 rfl (lv_room (Nat.le_of_ble_eq_true rfl)) dX10_goesOne_33) hP hD hS hA [0, 1] rfl rfl (fun H locs hP hD hS => ?_)
  have hP : va_P (dC, dI) vwCl [cl_X10 h_this h_this_dayAt h_this_secondAt h_this_spans h_this_kept h_this_text h_this_row h_this_read h_this_many h_this_first h_this_lengths h_this_page i_this_30 j_this, (h_this_spans, .inl (cI, 24, .inl f_this_spans))] H := hP
  have hD : va_D A [cl_X10 h_this h_this_dayAt h_this_secondAt h_this_spans h_this_kept h_this_text h_this_row h_this_read h_this_many h_this_first h_this_lengths h_this_page i_this_30 j_this, (h_this_spans, .inl (cI, 24, .inl f_this_spans))] := hD
  refine lv_if_eq (tgt := 43) hx hb dX10_goesOne_36 (by decide) (fun c32 => ?_) (fun c32 => ?_)
  · have h := ite_t c32 h
    refine lv_iconst (v := (0 : Int32)) hx hb dX10_goesOne_43 (by decide) ?_
    refine lv_istore (lv' := [(6, .int (0 : Int32)), (0, .ref h_this), (1, .int p1), (2, .int p2), (3, .int p3), (4, .int p4), (5, .int p5)]) hx hb dX10_goesOne_44 hl (by decide) rfl (fun ls hl => ?_)
    exact JN_46 _ _ _ _ _ _ _ _ _ h (lv_sub hl [1, 2, 3, 5, 0] rfl) hP hD hS
  have h := ite_f c32 h
  refine lv_iconst (v := (1 : Int32)) hx hb dX10_goesOne_39 (by decide) ?_
  refine lv_goto (tgt := 44) hx hb dX10_goesOne_40 (by decide) ?_
  refine lv_istore (lv' := [(6, .int (1 : Int32)), (0, .ref h_this), (1, .int p1), (2, .int p2), (3, .int p3), (4, .int p4), (5, .int p5)]) hx hb dX10_goesOne_44 hl (by decide) rfl (fun ls hl => ?_)
  exact JN_46 _ _ _ _ _ _ _ _ _ h (lv_sub hl [1, 2, 3, 5, 0] rfl) hP hD hS
noncomputable def fX10_goesOther_j63 (N : Nat) (f_this_spans : Nat → Int32) (v1 : Int32) (v2 : Int32) (v4 : Int32) (v6 : Int32) (i_this : Nat → Int32) (j_this : Nat → Int64) : Option (Int32 × (Nat → Int32) × (Nat → Int64)) := (if v1 = (3 : Int32) then (bd2 (fX10_addsSpan N v2 (1 : Int64) v4 (1 : Int32) i_this j_this f_this_spans) fun r5 i_this_6 => (bd1 (fX10_instant N i_this_6 j_this) fun r8 => (gz r5 (some (r5, i_this_6, (vp_updL j_this 26 r8)))))) else (bd1 (fX10_instant N i_this j_this) fun r2 => (gz v6 (some (v6, i_this, (vp_updL j_this 26 r2))))))
noncomputable def fX10_goesOther_j45 (N : Nat) (f_this_spans : Nat → Int32) (v1 : Int32) (v2 : Int32) (v4 : Int32) (v6 : Int32) (i_this : Nat → Int32) (j_this : Nat → Int64) : Option (Int32 × (Nat → Int32) × (Nat → Int64)) := (if v1 = (2 : Int32) then (bd2 (fX10_addsSpan N v2 (2 : Int64) v4 (0 : Int32) i_this j_this f_this_spans) fun r12 i_this_13 => (fX10_goesOther_j63 N f_this_spans v1 v2 v4 r12 i_this_13 j_this)) else (fX10_goesOther_j63 N f_this_spans v1 v2 v4 v6 i_this j_this))
noncomputable def fX10_goesOther (N : Nat) (p1 : Int32) (p2 : Int32) (p3 : Int32) (p4 : Int32) (p5 : Int32) (i_this : Nat → Int32) (j_this : Nat → Int64) (f_this_spans : Nat → Int32) : Option (Int32 × (Nat → Int32) × (Nat → Int64)) := (bd1 (fX10_stands N p5 (0 : Int32) i_this j_this) fun i_this_15 => (if p1 = (0 : Int32) then (bd2 (fX10_addsSpan N p3 (1 : Int64) p4 (0 : Int32) i_this_15 j_this f_this_spans) fun r18 i_this_19 => (if r18 = (0 : Int32) then (fX10_goesOther_j45 N f_this_spans p1 p2 p4 (0 : Int32) i_this_19 j_this) else (bd2 (fX10_addsSpan N p2 (1 : Int64) p4 (0 : Int32) i_this_19 j_this f_this_spans) fun r22 i_this_23 => (if r22 = (0 : Int32) then (fX10_goesOther_j45 N f_this_spans p1 p2 p4 (0 : Int32) i_this_23 j_this) else (fX10_goesOther_j45 N f_this_spans p1 p2 p4 (1 : Int32) i_this_23 j_this))))) else (fX10_goesOther_j45 N f_this_spans p1 p2 p4 (1 : Int32) i_this_15 j_this)))
set_option maxHeartbeats 4000000 in
set_option maxRecDepth 100000 in
theorem kX10_goesOther (l : Launch) (dC : Nat → ClassId) (dI : Nat → Nat → Nat) (cI cJ cB : ClassId) (h_this h_this_dayAt h_this_secondAt h_this_spans h_this_kept h_this_text h_this_row h_this_read h_this_many h_this_first h_this_lengths h_this_page : Nat) (N : Nat) (p1 : Int32) (p2 : Int32) (p3 : Int32) (p4 : Int32) (p5 : Int32) (i_this : Nat → Int32) (j_this : Nat → Int64) (f_this_spans : Nat → Int32) (r : Int32) (o_i_this : Nat → Int32) (o_j_this : Nat → Int64) (hf : fX10_goesOther N p1 p2 p3 p4 p5 i_this j_this f_this_spans = some (r, o_i_this, o_j_this)) : MI l yX10_goesOther (kws yX10_goesOther cX10_goesOther 7 (some .boolean)) (kR 6 150) (dC, dI) (kT cI cJ cB) [.ref h_this, .int p1, .int p2, .int p3, .int p4, .int p5] [cl_X10 h_this h_this_dayAt h_this_secondAt h_this_spans h_this_kept h_this_text h_this_row h_this_read h_this_many h_this_first h_this_lengths h_this_page i_this j_this, (h_this_spans, .inl (cI, 24, .inl f_this_spans))] [cl_X10 h_this h_this_dayAt h_this_secondAt h_this_spans h_this_kept h_this_text h_this_row h_this_read h_this_many h_this_first h_this_lengths h_this_page o_i_this o_j_this, (h_this_spans, .inl (cI, 24, .inl f_this_spans))] r := by
  refine MI.of (cc := cX10_goesOther) (maxL := 7) (by decide) (Nat.le_of_ble_eq_true rfl) (fun p e s m args below meth c A Q ls KC hN hK hP hD hA hl hEnd => ?_)
  obtain ⟨hx, hb, hml, hown, hts⟩ := KC
  have hown : s.vm.findClass "DateSpansModel" = some m.cls := hown
  have hl : lv_has ls 7 [(0, .ref h_this), (1, .int p1), (2, .int p2), (3, .int p3), (4, .int p4), (5, .int p5)] := hl
  have hS : va_S A s.heap s.heap [] := va_S.rf
  have JN_63 : ∀ (v1 : Int32) (v2 : Int32) (v4 : Int32) (v6 : Int32) (i_this : Nat → Int32) (j_this : Nat → Int64) (ls : Array Slot) (H : Heap) (locs : List Loc), (fX10_goesOther_j63 N f_this_spans) v1 v2 v4 v6 i_this j_this = some (r, o_i_this, o_j_this) → lv_has ls 7 [(0, .ref h_this), (1, .int v1), (2, .int v2), (4, .int v4), (6, .int v6)] → va_P (dC, dI) vwCl [cl_X10 h_this h_this_dayAt h_this_secondAt h_this_spans h_this_kept h_this_text h_this_row h_this_read h_this_many h_this_first h_this_lengths h_this_page i_this j_this, (h_this_spans, .inl (cI, 24, .inl f_this_spans))] H → va_D A [cl_X10 h_this h_this_dayAt h_this_secondAt h_this_spans h_this_kept h_this_text h_this_row h_this_read h_this_many h_this_first h_this_lengths h_this_page i_this j_this, (h_this_spans, .inl (cI, 24, .inl f_this_spans))] → va_S A s.heap H locs → W p l e (kR 6 150) s m args below meth c H locs 0 0 Q (F0 m 63 ls []) := by
    intro v1 v2 v4 v6 i_this j_this ls H locs h hl hP hD hS
    unfold fX10_goesOther_j63 at h
    refine lv_iload_n hx hb dX10_goesOther_63 rfl (lv_at hl 1 rfl) ?_
    refine lv_iconst (v := (3 : Int32)) hx hb dX10_goesOther_64 (by decide) ?_
    refine lv_icmp_ne (tgt := 79) hx hb dX10_goesOther_65 (by decide) (fun c1 => ?_) (fun c1 => ?_)
    · have h := ite_f c1 h
      refine lv_aload_n hx hb dX10_goesOther_79 rfl (lv_at hl 0 rfl) ?_
      refine lv_aload_n hx hb dX10_goesOther_80 rfl (lv_at hl 0 rfl) ?_
      obtain ⟨r2, hc3, h⟩ := bd1_at h
      refine kjL (kV (own := "DateSpansModel") (C := "DateSpansModel") (b := h_this) (As := []) (rest := [.ref h_this]) ⟨hx, hb, hml, hown, hts⟩ (kX10_instant l dC dI cI cJ cB h_this h_this_dayAt h_this_secondAt h_this_spans h_this_kept h_this_text h_this_row h_this_read h_this_many h_this_first h_this_lengths h_this_page N i_this j_this r2 hc3 _) (kgV (kq q_1352 rfl) (kq q_1354 rfl) (kq q_42 rfl) (kq q_66 rfl) (kq q_1355 rfl)) yd_X10_instant ⟨Nat.le_of_ble_eq_true rfl, Nat.le_of_ble_eq_true rfl⟩ hN hK hP hD [0] rfl rfl (ci := 9) rfl rfl rfl rfl rfl hl.1 rfl (lv_room (Nat.le_of_ble_eq_true rfl)) dX10_goesOther_81) hP hD hS hA [0] rfl rfl (fun H locs hP hD hS => ?_)
      have hP : va_P (dC, dI) vwCl [cl_X10 h_this h_this_dayAt h_this_secondAt h_this_spans h_this_kept h_this_text h_this_row h_this_read h_this_many h_this_first h_this_lengths h_this_page i_this j_this, (h_this_spans, .inl (cI, 24, .inl f_this_spans))] H := hP
      have hD : va_D A [cl_X10 h_this h_this_dayAt h_this_secondAt h_this_spans h_this_kept h_this_text h_this_row h_this_read h_this_many h_this_first h_this_lengths h_this_page i_this j_this, (h_this_spans, .inl (cI, 24, .inl f_this_spans))] := hD
      refine va_put (D := (dC, dI)) (ci := 9) (v := .long r2) (ty := .long) (C := RX10) (T := TX10) (N := 29) hx hb hts inX10 tyX10 tyX10_ok nmX10 hown hK hP hD hS 0 rfl rfl 26 (by decide) (hts _ (kq q_1012 rfl)) (fun _ h9 => h9) rfl (by decide +kernel) rfl rfl (Nat.le_of_ble_eq_true rfl) dX10_goesOther_84 (fun H locs hP hD hS => ?_)
      have hP : va_P (dC, dI) vwCl [(h_this, .inr (9, [.ref h_this_dayAt, .ref h_this_secondAt, .ref h_this_spans, .ref h_this_kept, .int (i_this 4), .ref h_this_text, .int (i_this 6), .ref h_this_row, .int (i_this 8), .int (i_this 9), .int (i_this 10), .int (i_this 11), .int (i_this 12), .int (i_this 13), .int (i_this 14), .int (i_this 15), .int (i_this 16), .int (i_this 17), .int (i_this 18), .ref h_this_read, .long (j_this 20), .ref h_this_many, .ref h_this_first, .ref h_this_lengths, .int (i_this 24), .long (j_this 25), .long r2, .ref h_this_page, .int (i_this 28)])), (h_this_spans, .inl (cI, 24, .inl f_this_spans))] H := hP
      have hD : va_D A [(h_this, .inr (9, [.ref h_this_dayAt, .ref h_this_secondAt, .ref h_this_spans, .ref h_this_kept, .int (i_this 4), .ref h_this_text, .int (i_this 6), .ref h_this_row, .int (i_this 8), .int (i_this 9), .int (i_this 10), .int (i_this 11), .int (i_this 12), .int (i_this 13), .int (i_this 14), .int (i_this 15), .int (i_this 16), .int (i_this 17), .int (i_this 18), .ref h_this_read, .long (j_this 20), .ref h_this_many, .ref h_this_first, .ref h_this_lengths, .int (i_this 24), .long (j_this 25), .long r2, .ref h_this_page, .int (i_this 28)])), (h_this_spans, .inl (cI, 24, .inl f_this_spans))] := hD
      refine lv_iload hx hb dX10_goesOther_87 (lv_at hl 4 rfl) ?_
      have hP : va_P (dC, dI) vwCl [cl_X10 h_this h_this_dayAt h_this_secondAt h_this_spans h_this_kept h_this_text h_this_row h_this_read h_this_many h_this_first h_this_lengths h_this_page i_this (vp_updL j_this 26 r2), (h_this_spans, .inl (cI, 24, .inl f_this_spans))] H := hP
      have hD : va_D A [cl_X10 h_this h_this_dayAt h_this_secondAt h_this_spans h_this_kept h_this_text h_this_row h_this_read h_this_many h_this_first h_this_lengths h_this_page i_this (vp_updL j_this 26 r2), (h_this_spans, .inl (cI, 24, .inl f_this_spans))] := hD
      obtain ⟨hz4, h⟩ := gz_at h
      obtain ⟨rfl, rfl, rfl⟩ := pj3 h
      exact hEnd _ _ _ _ hP hS dX10_goesOther_89 hz4
    have h := ite_t c1 h
    refine lv_aload_n hx hb dX10_goesOther_68 rfl (lv_at hl 0 rfl) ?_
    refine lv_iload_n hx hb dX10_goesOther_69 rfl (lv_at hl 2 rfl) ?_
    refine lv_lconst (v := (1 : Int64)) hx hb dX10_goesOther_70 (by decide) ?_
    refine lv_iload hx hb dX10_goesOther_71 (lv_at hl 3 rfl) ?_
    refine lv_iconst (v := (1 : Int32)) hx hb dX10_goesOther_73 (by decide) ?_
    obtain ⟨r5, i_this_6, hc7, h⟩ := bd2_at h
    refine kjI (kV (own := "DateSpansModel") (C := "DateSpansModel") (b := h_this) (As := [.int v2, .long (1 : Int64), .int v4, .int (1 : Int32)]) (rest := []) ⟨hx, hb, hml, hown, hts⟩ (kX10_addsSpan l dC dI cI cJ cB h_this h_this_dayAt h_this_secondAt h_this_spans h_this_kept h_this_text h_this_row h_this_read h_this_many h_this_first h_this_lengths h_this_page N v2 (1 : Int64) v4 (1 : Int32) i_this j_this f_this_spans r5 i_this_6 hc7 _) (kgV (kq q_1286 rfl) (kq q_1288 rfl) (kq q_33 rfl) (kq q_66 rfl) (kq q_1289 rfl)) yd_X10_addsSpan ⟨Nat.le_of_ble_eq_true rfl, Nat.le_of_ble_eq_true rfl⟩ hN hK hP hD [0, 1] rfl rfl (ci := 9) rfl rfl rfl rfl rfl hl.1 rfl (lv_room (Nat.le_of_ble_eq_true rfl)) dX10_goesOther_74) hP hD hS hA [0, 1] rfl rfl (fun H locs hP hD hS => ?_)
    have hP : va_P (dC, dI) vwCl [cl_X10 h_this h_this_dayAt h_this_secondAt h_this_spans h_this_kept h_this_text h_this_row h_this_read h_this_many h_this_first h_this_lengths h_this_page i_this_6 j_this, (h_this_spans, .inl (cI, 24, .inl f_this_spans))] H := hP
    have hD : va_D A [cl_X10 h_this h_this_dayAt h_this_secondAt h_this_spans h_this_kept h_this_text h_this_row h_this_read h_this_many h_this_first h_this_lengths h_this_page i_this_6 j_this, (h_this_spans, .inl (cI, 24, .inl f_this_spans))] := hD
    refine lv_istore (lv' := [(6, .int r5), (0, .ref h_this), (1, .int v1), (2, .int v2), (4, .int v4)]) hx hb dX10_goesOther_77 hl (by decide) rfl (fun ls hl => ?_)
    refine lv_aload_n hx hb dX10_goesOther_79 rfl (lv_at hl 1 rfl) ?_
    refine lv_aload_n hx hb dX10_goesOther_80 rfl (lv_at hl 1 rfl) ?_
    obtain ⟨r8, hc9, h⟩ := bd1_at h
    refine kjL (kV (own := "DateSpansModel") (C := "DateSpansModel") (b := h_this) (As := []) (rest := [.ref h_this]) ⟨hx, hb, hml, hown, hts⟩ (kX10_instant l dC dI cI cJ cB h_this h_this_dayAt h_this_secondAt h_this_spans h_this_kept h_this_text h_this_row h_this_read h_this_many h_this_first h_this_lengths h_this_page N i_this_6 j_this r8 hc9 _) (kgV (kq q_1352 rfl) (kq q_1354 rfl) (kq q_42 rfl) (kq q_66 rfl) (kq q_1355 rfl)) yd_X10_instant ⟨Nat.le_of_ble_eq_true rfl, Nat.le_of_ble_eq_true rfl⟩ hN hK hP hD [0] rfl rfl (ci := 9) rfl rfl rfl rfl rfl hl.1 rfl (lv_room (Nat.le_of_ble_eq_true rfl)) dX10_goesOther_81) hP hD hS hA [0] rfl rfl (fun H locs hP hD hS => ?_)
    have hP : va_P (dC, dI) vwCl [cl_X10 h_this h_this_dayAt h_this_secondAt h_this_spans h_this_kept h_this_text h_this_row h_this_read h_this_many h_this_first h_this_lengths h_this_page i_this_6 j_this, (h_this_spans, .inl (cI, 24, .inl f_this_spans))] H := hP
    have hD : va_D A [cl_X10 h_this h_this_dayAt h_this_secondAt h_this_spans h_this_kept h_this_text h_this_row h_this_read h_this_many h_this_first h_this_lengths h_this_page i_this_6 j_this, (h_this_spans, .inl (cI, 24, .inl f_this_spans))] := hD
    refine va_put (D := (dC, dI)) (ci := 9) (v := .long r8) (ty := .long) (C := RX10) (T := TX10) (N := 29) hx hb hts inX10 tyX10 tyX10_ok nmX10 hown hK hP hD hS 0 rfl rfl 26 (by decide) (hts _ (kq q_1012 rfl)) (fun _ h9 => h9) rfl (by decide +kernel) rfl rfl (Nat.le_of_ble_eq_true rfl) dX10_goesOther_84 (fun H locs hP hD hS => ?_)
    have hP : va_P (dC, dI) vwCl [(h_this, .inr (9, [.ref h_this_dayAt, .ref h_this_secondAt, .ref h_this_spans, .ref h_this_kept, .int (i_this_6 4), .ref h_this_text, .int (i_this_6 6), .ref h_this_row, .int (i_this_6 8), .int (i_this_6 9), .int (i_this_6 10), .int (i_this_6 11), .int (i_this_6 12), .int (i_this_6 13), .int (i_this_6 14), .int (i_this_6 15), .int (i_this_6 16), .int (i_this_6 17), .int (i_this_6 18), .ref h_this_read, .long (j_this 20), .ref h_this_many, .ref h_this_first, .ref h_this_lengths, .int (i_this_6 24), .long (j_this 25), .long r8, .ref h_this_page, .int (i_this_6 28)])), (h_this_spans, .inl (cI, 24, .inl f_this_spans))] H := hP
    have hD : va_D A [(h_this, .inr (9, [.ref h_this_dayAt, .ref h_this_secondAt, .ref h_this_spans, .ref h_this_kept, .int (i_this_6 4), .ref h_this_text, .int (i_this_6 6), .ref h_this_row, .int (i_this_6 8), .int (i_this_6 9), .int (i_this_6 10), .int (i_this_6 11), .int (i_this_6 12), .int (i_this_6 13), .int (i_this_6 14), .int (i_this_6 15), .int (i_this_6 16), .int (i_this_6 17), .int (i_this_6 18), .ref h_this_read, .long (j_this 20), .ref h_this_many, .ref h_this_first, .ref h_this_lengths, .int (i_this_6 24), .long (j_this 25), .long r8, .ref h_this_page, .int (i_this_6 28)])), (h_this_spans, .inl (cI, 24, .inl f_this_spans))] := hD
    refine lv_iload hx hb dX10_goesOther_87 (lv_at hl 0 rfl) ?_
    have hP : va_P (dC, dI) vwCl [cl_X10 h_this h_this_dayAt h_this_secondAt h_this_spans h_this_kept h_this_text h_this_row h_this_read h_this_many h_this_first h_this_lengths h_this_page i_this_6 (vp_updL j_this 26 r8), (h_this_spans, .inl (cI, 24, .inl f_this_spans))] H := hP
    have hD : va_D A [cl_X10 h_this h_this_dayAt h_this_secondAt h_this_spans h_this_kept h_this_text h_this_row h_this_read h_this_many h_this_first h_this_lengths h_this_page i_this_6 (vp_updL j_this 26 r8), (h_this_spans, .inl (cI, 24, .inl f_this_spans))] := hD
    obtain ⟨hz10, h⟩ := gz_at h
    obtain ⟨rfl, rfl, rfl⟩ := pj3 h
    exact hEnd _ _ _ _ hP hS dX10_goesOther_89 hz10
  have JN_45 : ∀ (v1 : Int32) (v2 : Int32) (v4 : Int32) (v6 : Int32) (i_this : Nat → Int32) (j_this : Nat → Int64) (ls : Array Slot) (H : Heap) (locs : List Loc), (fX10_goesOther_j45 N f_this_spans) v1 v2 v4 v6 i_this j_this = some (r, o_i_this, o_j_this) → lv_has ls 7 [(0, .ref h_this), (1, .int v1), (2, .int v2), (4, .int v4), (6, .int v6)] → va_P (dC, dI) vwCl [cl_X10 h_this h_this_dayAt h_this_secondAt h_this_spans h_this_kept h_this_text h_this_row h_this_read h_this_many h_this_first h_this_lengths h_this_page i_this j_this, (h_this_spans, .inl (cI, 24, .inl f_this_spans))] H → va_D A [cl_X10 h_this h_this_dayAt h_this_secondAt h_this_spans h_this_kept h_this_text h_this_row h_this_read h_this_many h_this_first h_this_lengths h_this_page i_this j_this, (h_this_spans, .inl (cI, 24, .inl f_this_spans))] → va_S A s.heap H locs → W p l e (kR 6 150) s m args below meth c H locs 0 0 Q (F0 m 45 ls []) := by
    intro v1 v2 v4 v6 i_this j_this ls H locs h hl hP hD hS
    unfold fX10_goesOther_j45 at h
    refine lv_iload_n hx hb dX10_goesOther_45 rfl (lv_at hl 1 rfl) ?_
    refine lv_iconst (v := (2 : Int32)) hx hb dX10_goesOther_46 (by decide) ?_
    refine lv_icmp_ne (tgt := 63) hx hb dX10_goesOther_47 (by decide) (fun c11 => ?_) (fun c11 => ?_)
    · have h := ite_f c11 h
      exact JN_63 _ _ _ _ _ _ _ _ _ h (lv_sub hl [0, 1, 2, 3, 4] rfl) hP hD hS
    have h := ite_t c11 h
    refine lv_aload_n hx hb dX10_goesOther_50 rfl (lv_at hl 0 rfl) ?_
    refine lv_iload_n hx hb dX10_goesOther_51 rfl (lv_at hl 2 rfl) ?_
    refine lv_ldc2 (v := (2 : Int64)) hx hb hown (hts _ (kq q_1248 rfl)) dX10_goesOther_52 ?_
    refine lv_iload hx hb dX10_goesOther_55 (lv_at hl 3 rfl) ?_
    refine lv_iconst (v := (0 : Int32)) hx hb dX10_goesOther_57 (by decide) ?_
    obtain ⟨r12, i_this_13, hc14, h⟩ := bd2_at h
    refine kjI (kV (own := "DateSpansModel") (C := "DateSpansModel") (b := h_this) (As := [.int v2, .long (2 : Int64), .int v4, .int (0 : Int32)]) (rest := []) ⟨hx, hb, hml, hown, hts⟩ (kX10_addsSpan l dC dI cI cJ cB h_this h_this_dayAt h_this_secondAt h_this_spans h_this_kept h_this_text h_this_row h_this_read h_this_many h_this_first h_this_lengths h_this_page N v2 (2 : Int64) v4 (0 : Int32) i_this j_this f_this_spans r12 i_this_13 hc14 _) (kgV (kq q_1286 rfl) (kq q_1288 rfl) (kq q_33 rfl) (kq q_66 rfl) (kq q_1289 rfl)) yd_X10_addsSpan ⟨Nat.le_of_ble_eq_true rfl, Nat.le_of_ble_eq_true rfl⟩ hN hK hP hD [0, 1] rfl rfl (ci := 9) rfl rfl rfl rfl rfl hl.1 rfl (lv_room (Nat.le_of_ble_eq_true rfl)) dX10_goesOther_58) hP hD hS hA [0, 1] rfl rfl (fun H locs hP hD hS => ?_)
    have hP : va_P (dC, dI) vwCl [cl_X10 h_this h_this_dayAt h_this_secondAt h_this_spans h_this_kept h_this_text h_this_row h_this_read h_this_many h_this_first h_this_lengths h_this_page i_this_13 j_this, (h_this_spans, .inl (cI, 24, .inl f_this_spans))] H := hP
    have hD : va_D A [cl_X10 h_this h_this_dayAt h_this_secondAt h_this_spans h_this_kept h_this_text h_this_row h_this_read h_this_many h_this_first h_this_lengths h_this_page i_this_13 j_this, (h_this_spans, .inl (cI, 24, .inl f_this_spans))] := hD
    refine lv_istore (lv' := [(6, .int r12), (0, .ref h_this), (1, .int v1), (2, .int v2), (4, .int v4)]) hx hb dX10_goesOther_61 hl (by decide) rfl (fun ls hl => ?_)
    exact JN_63 _ _ _ _ _ _ _ _ _ h (lv_sub hl [1, 2, 3, 4, 0] rfl) hP hD hS
  have h := hf
  unfold fX10_goesOther at h
  refine lv_aload_n hx hb dX10_goesOther_0 rfl (lv_at hl 0 rfl) ?_
  refine lv_iload hx hb dX10_goesOther_1 (lv_at hl 5 rfl) ?_
  refine lv_iconst (v := (0 : Int32)) hx hb dX10_goesOther_3 (by decide) ?_
  obtain ⟨i_this_15, hc16, h⟩ := bd1_at h
  refine kjV (kV (own := "DateSpansModel") (C := "DateSpansModel") (b := h_this) (As := [.int p5, .int (0 : Int32)]) (rest := []) ⟨hx, hb, hml, hown, hts⟩ (kX10_stands l dC dI cI cJ cB h_this h_this_dayAt h_this_secondAt h_this_spans h_this_kept h_this_text h_this_row h_this_read h_this_many h_this_first h_this_lengths h_this_page N p5 (0 : Int32) i_this j_this i_this_15 hc16 _) (kgV (kq q_1136 rfl) (kq q_1138 rfl) (kq q_24 rfl) (kq q_66 rfl) (kq q_1139 rfl)) yd_X10_stands ⟨Nat.le_of_ble_eq_true rfl, Nat.le_of_ble_eq_true rfl⟩ hN hK hP hD [0] rfl rfl (ci := 9) rfl rfl rfl rfl rfl hl.1 rfl (lv_room (Nat.le_of_ble_eq_true rfl)) dX10_goesOther_4) hP hD hS hA [0] rfl rfl (fun H locs hP hD hS => ?_)
  have hP : va_P (dC, dI) vwCl [cl_X10 h_this h_this_dayAt h_this_secondAt h_this_spans h_this_kept h_this_text h_this_row h_this_read h_this_many h_this_first h_this_lengths h_this_page i_this_15 j_this, (h_this_spans, .inl (cI, 24, .inl f_this_spans))] H := hP
  have hD : va_D A [cl_X10 h_this h_this_dayAt h_this_secondAt h_this_spans h_this_kept h_this_text h_this_row h_this_read h_this_many h_this_first h_this_lengths h_this_page i_this_15 j_this, (h_this_spans, .inl (cI, 24, .inl f_this_spans))] := hD
  refine lv_iconst (v := (1 : Int32)) hx hb dX10_goesOther_7 (by decide) ?_
  refine lv_istore (lv' := [(6, .int (1 : Int32)), (0, .ref h_this), (1, .int p1), (2, .int p2), (3, .int p3), (4, .int p4), (5, .int p5)]) hx hb dX10_goesOther_8 hl (by decide) rfl (fun ls hl => ?_)
  refine lv_iload_n hx hb dX10_goesOther_10 rfl (lv_at hl 2 rfl) ?_
  refine lv_if_ne (tgt := 45) hx hb dX10_goesOther_11 (by decide) (fun c17 => ?_) (fun c17 => ?_)
  · have h := ite_f c17 h
    exact JN_45 _ _ _ _ _ _ _ _ _ h (lv_sub hl [1, 2, 3, 5, 0] rfl) hP hD hS
  have h := ite_t c17 h
  refine lv_aload_n hx hb dX10_goesOther_14 rfl (lv_at hl 1 rfl) ?_
  refine lv_iload_n hx hb dX10_goesOther_15 rfl (lv_at hl 4 rfl) ?_
  refine lv_lconst (v := (1 : Int64)) hx hb dX10_goesOther_16 (by decide) ?_
  refine lv_iload hx hb dX10_goesOther_17 (lv_at hl 5 rfl) ?_
  refine lv_iconst (v := (0 : Int32)) hx hb dX10_goesOther_19 (by decide) ?_
  obtain ⟨r18, i_this_19, hc20, h⟩ := bd2_at h
  refine kjI (kV (own := "DateSpansModel") (C := "DateSpansModel") (b := h_this) (As := [.int p3, .long (1 : Int64), .int p4, .int (0 : Int32)]) (rest := []) ⟨hx, hb, hml, hown, hts⟩ (kX10_addsSpan l dC dI cI cJ cB h_this h_this_dayAt h_this_secondAt h_this_spans h_this_kept h_this_text h_this_row h_this_read h_this_many h_this_first h_this_lengths h_this_page N p3 (1 : Int64) p4 (0 : Int32) i_this_15 j_this f_this_spans r18 i_this_19 hc20 _) (kgV (kq q_1286 rfl) (kq q_1288 rfl) (kq q_33 rfl) (kq q_66 rfl) (kq q_1289 rfl)) yd_X10_addsSpan ⟨Nat.le_of_ble_eq_true rfl, Nat.le_of_ble_eq_true rfl⟩ hN hK hP hD [0, 1] rfl rfl (ci := 9) rfl rfl rfl rfl rfl hl.1 rfl (lv_room (Nat.le_of_ble_eq_true rfl)) dX10_goesOther_20) hP hD hS hA [0, 1] rfl rfl (fun H locs hP hD hS => ?_)
  have hP : va_P (dC, dI) vwCl [cl_X10 h_this h_this_dayAt h_this_secondAt h_this_spans h_this_kept h_this_text h_this_row h_this_read h_this_many h_this_first h_this_lengths h_this_page i_this_19 j_this, (h_this_spans, .inl (cI, 24, .inl f_this_spans))] H := hP
  have hD : va_D A [cl_X10 h_this h_this_dayAt h_this_secondAt h_this_spans h_this_kept h_this_text h_this_row h_this_read h_this_many h_this_first h_this_lengths h_this_page i_this_19 j_this, (h_this_spans, .inl (cI, 24, .inl f_this_spans))] := hD
  refine lv_if_eq (tgt := 42) hx hb dX10_goesOther_23 (by decide) (fun c21 => ?_) (fun c21 => ?_)
  · have h := ite_t c21 h
    refine lv_iconst (v := (0 : Int32)) hx hb dX10_goesOther_42 (by decide) ?_
    refine lv_istore (lv' := [(6, .int (0 : Int32)), (0, .ref h_this), (1, .int p1), (2, .int p2), (3, .int p3), (4, .int p4), (5, .int p5)]) hx hb dX10_goesOther_43 hl (by decide) rfl (fun ls hl => ?_)
    exact JN_45 _ _ _ _ _ _ _ _ _ h (lv_sub hl [1, 2, 3, 5, 0] rfl) hP hD hS
  have h := ite_f c21 h
  refine lv_aload_n hx hb dX10_goesOther_26 rfl (lv_at hl 1 rfl) ?_
  refine lv_iload_n hx hb dX10_goesOther_27 rfl (lv_at hl 3 rfl) ?_
  refine lv_lconst (v := (1 : Int64)) hx hb dX10_goesOther_28 (by decide) ?_
  refine lv_iload hx hb dX10_goesOther_29 (lv_at hl 5 rfl) ?_
  refine lv_iconst (v := (0 : Int32)) hx hb dX10_goesOther_31 (by decide) ?_
  obtain ⟨r22, i_this_23, hc24, h⟩ := bd2_at h
  refine kjI (kV (own := "DateSpansModel") (C := "DateSpansModel") (b := h_this) (As := [.int p2, .long (1 : Int64), .int p4, .int (0 : Int32)]) (rest := []) ⟨hx, hb, hml, hown, hts⟩ (kX10_addsSpan l dC dI cI cJ cB h_this h_this_dayAt h_this_secondAt h_this_spans h_this_kept h_this_text h_this_row h_this_read h_this_many h_this_first h_this_lengths h_this_page N p2 (1 : Int64) p4 (0 : Int32) i_this_19 j_this f_this_spans r22 i_this_23 hc24 _) (kgV (kq q_1286 rfl) (kq q_1288 rfl) (kq q_33 rfl) (kq q_66 rfl) (kq q_1289 rfl)) yd_X10_addsSpan ⟨Nat.le_of_ble_eq_true rfl, Nat.le_of_ble_eq_true rfl⟩ hN hK hP hD [0, 1] rfl rfl (ci := 9) rfl rfl rfl rfl rfl hl.1 rfl (lv_room (Nat.le_of_ble_eq_true rfl)) dX10_goesOther_32) hP hD hS hA [0, 1] rfl rfl (fun H locs hP hD hS => ?_)
  have hP : va_P (dC, dI) vwCl [cl_X10 h_this h_this_dayAt h_this_secondAt h_this_spans h_this_kept h_this_text h_this_row h_this_read h_this_many h_this_first h_this_lengths h_this_page i_this_23 j_this, (h_this_spans, .inl (cI, 24, .inl f_this_spans))] H := hP
  have hD : va_D A [cl_X10 h_this h_this_dayAt h_this_secondAt h_this_spans h_this_kept h_this_text h_this_row h_this_read h_this_many h_this_first h_this_lengths h_this_page i_this_23 j_this, (h_this_spans, .inl (cI, 24, .inl f_this_spans))] := hD
  refine lv_if_eq (tgt := 42) hx hb dX10_goesOther_35 (by decide) (fun c25 => ?_) (fun c25 => ?_)
  · have h := ite_t c25 h
    refine lv_iconst (v := (0 : Int32)) hx hb dX10_goesOther_42 (by decide) ?_
    refine lv_istore (lv' := [(6, .int (0 : Int32)), (0, .ref h_this), (1, .int p1), (2, .int p2), (3, .int p3), (4, .int p4), (5, .int p5)]) hx hb dX10_goesOther_43 hl (by decide) rfl (fun ls hl => ?_)
    exact JN_45 _ _ _ _ _ _ _ _ _ h (lv_sub hl [1, 2, 3, 5, 0] rfl) hP hD hS
  have h := ite_f c25 h
  refine lv_iconst (v := (1 : Int32)) hx hb dX10_goesOther_38 (by decide) ?_
  refine lv_goto (tgt := 43) hx hb dX10_goesOther_39 (by decide) ?_
  refine lv_istore (lv' := [(6, .int (1 : Int32)), (0, .ref h_this), (1, .int p1), (2, .int p2), (3, .int p3), (4, .int p4), (5, .int p5)]) hx hb dX10_goesOther_43 hl (by decide) rfl (fun ls hl => ?_)
  exact JN_45 _ _ _ _ _ _ _ _ _ h (lv_sub hl [1, 2, 3, 5, 0] rfl) hP hD hS
noncomputable def fX10_isUnlike (N : Nat) (p1 : Int32) (p2 : Int32) (p3 : Int32) (p4 : Int32) (p5 : Int32) (i_this : Nat → Int32) (j_this : Nat → Int64) (f_this_spans : Nat → Int32) : Option (Int32 × (Nat → Int32) × (Nat → Int64)) := (bd3 (fX10_goesOne N p1 p2 p3 p4 p5 i_this j_this f_this_spans) fun r1 i_this_2 j_this_3 => (if r1 = (0 : Int32) then (some ((0 : Int32), i_this_2, j_this_3)) else (bd3 (fX10_goesOther N p1 p2 p3 p4 p5 i_this_2 j_this_3 f_this_spans) fun r6 i_this_7 j_this_8 => (if r6 = (0 : Int32) then (some ((0 : Int32), i_this_7, j_this_8)) else (if (lg_cmp (j_this_8 25) (j_this_8 26)) = (0 : Int32) then (some ((0 : Int32), i_this_7, j_this_8)) else (some ((1 : Int32), i_this_7, j_this_8)))))))
set_option maxHeartbeats 4000000 in
set_option maxRecDepth 100000 in
theorem kX10_isUnlike (l : Launch) (dC : Nat → ClassId) (dI : Nat → Nat → Nat) (cI cJ cB : ClassId) (h_this h_this_dayAt h_this_secondAt h_this_spans h_this_kept h_this_text h_this_row h_this_read h_this_many h_this_first h_this_lengths h_this_page : Nat) (N : Nat) (p1 : Int32) (p2 : Int32) (p3 : Int32) (p4 : Int32) (p5 : Int32) (i_this : Nat → Int32) (j_this : Nat → Int64) (f_this_spans : Nat → Int32) (r : Int32) (o_i_this : Nat → Int32) (o_j_this : Nat → Int64) (hf : fX10_isUnlike N p1 p2 p3 p4 p5 i_this j_this f_this_spans = some (r, o_i_this, o_j_this)) : MI l yX10_isUnlike (kws yX10_isUnlike cX10_isUnlike 6 (some .boolean)) (kR 7 176) (dC, dI) (kT cI cJ cB) [.ref h_this, .int p1, .int p2, .int p3, .int p4, .int p5] [cl_X10 h_this h_this_dayAt h_this_secondAt h_this_spans h_this_kept h_this_text h_this_row h_this_read h_this_many h_this_first h_this_lengths h_this_page i_this j_this, (h_this_spans, .inl (cI, 24, .inl f_this_spans))] [cl_X10 h_this h_this_dayAt h_this_secondAt h_this_spans h_this_kept h_this_text h_this_row h_this_read h_this_many h_this_first h_this_lengths h_this_page o_i_this o_j_this, (h_this_spans, .inl (cI, 24, .inl f_this_spans))] r := by
  refine MI.of (cc := cX10_isUnlike) (maxL := 6) (by decide) (Nat.le_of_ble_eq_true rfl) (fun p e s m args below meth c A Q ls KC hN hK hP hD hA hl hEnd => ?_)
  obtain ⟨hx, hb, hml, hown, hts⟩ := KC
  have hown : s.vm.findClass "DateSpansModel" = some m.cls := hown
  have hl : lv_has ls 6 [(0, .ref h_this), (1, .int p1), (2, .int p2), (3, .int p3), (4, .int p4), (5, .int p5)] := hl
  have hS : va_S A s.heap s.heap [] := va_S.rf
  have h := hf
  unfold fX10_isUnlike at h
  refine lv_aload_n hx hb dX10_isUnlike_0 rfl (lv_at hl 0 rfl) ?_
  refine lv_iload_n hx hb dX10_isUnlike_1 rfl (lv_at hl 1 rfl) ?_
  refine lv_iload_n hx hb dX10_isUnlike_2 rfl (lv_at hl 2 rfl) ?_
  refine lv_iload_n hx hb dX10_isUnlike_3 rfl (lv_at hl 3 rfl) ?_
  refine lv_iload hx hb dX10_isUnlike_4 (lv_at hl 4 rfl) ?_
  refine lv_iload hx hb dX10_isUnlike_6 (lv_at hl 5 rfl) ?_
  obtain ⟨r1, i_this_2, j_this_3, hc4, h⟩ := bd3_at h
  refine kjI (kV (own := "DateSpansModel") (C := "DateSpansModel") (b := h_this) (As := [.int p1, .int p2, .int p3, .int p4, .int p5]) (rest := []) ⟨hx, hb, hml, hown, hts⟩ (kX10_goesOne l dC dI cI cJ cB h_this h_this_dayAt h_this_secondAt h_this_spans h_this_kept h_this_text h_this_row h_this_read h_this_many h_this_first h_this_lengths h_this_page N p1 p2 p3 p4 p5 i_this j_this f_this_spans r1 i_this_2 j_this_3 hc4 _) (kgV (kq q_1396 rfl) (kq q_1398 rfl) (kq q_46 rfl) (kq q_66 rfl) (kq q_1399 rfl)) yd_X10_goesOne ⟨Nat.le_of_ble_eq_true rfl, Nat.le_of_ble_eq_true rfl⟩ hN hK hP hD [0, 1] rfl rfl (ci := 9) rfl rfl rfl rfl rfl hl.1 rfl (lv_room (Nat.le_of_ble_eq_true rfl)) dX10_isUnlike_8) hP hD hS hA [0, 1] rfl rfl (fun H locs hP hD hS => ?_)
  have hP : va_P (dC, dI) vwCl [cl_X10 h_this h_this_dayAt h_this_secondAt h_this_spans h_this_kept h_this_text h_this_row h_this_read h_this_many h_this_first h_this_lengths h_this_page i_this_2 j_this_3, (h_this_spans, .inl (cI, 24, .inl f_this_spans))] H := hP
  have hD : va_D A [cl_X10 h_this h_this_dayAt h_this_secondAt h_this_spans h_this_kept h_this_text h_this_row h_this_read h_this_many h_this_first h_this_lengths h_this_page i_this_2 j_this_3, (h_this_spans, .inl (cI, 24, .inl f_this_spans))] := hD
  refine lv_if_eq (tgt := 44) hx hb dX10_isUnlike_11 (by decide) (fun c5 => ?_) (fun c5 => ?_)
  · have h := ite_t c5 h
    refine lv_iconst (v := (0 : Int32)) hx hb dX10_isUnlike_44 (by decide) ?_
    obtain ⟨rfl, rfl, rfl⟩ := pj3 h
    exact hEnd _ _ _ _ hP hS dX10_isUnlike_45 rfl
  have h := ite_f c5 h
  refine lv_aload_n hx hb dX10_isUnlike_14 rfl (lv_at hl 0 rfl) ?_
  refine lv_iload_n hx hb dX10_isUnlike_15 rfl (lv_at hl 1 rfl) ?_
  refine lv_iload_n hx hb dX10_isUnlike_16 rfl (lv_at hl 2 rfl) ?_
  refine lv_iload_n hx hb dX10_isUnlike_17 rfl (lv_at hl 3 rfl) ?_
  refine lv_iload hx hb dX10_isUnlike_18 (lv_at hl 4 rfl) ?_
  refine lv_iload hx hb dX10_isUnlike_20 (lv_at hl 5 rfl) ?_
  obtain ⟨r6, i_this_7, j_this_8, hc9, h⟩ := bd3_at h
  refine kjI (kV (own := "DateSpansModel") (C := "DateSpansModel") (b := h_this) (As := [.int p1, .int p2, .int p3, .int p4, .int p5]) (rest := []) ⟨hx, hb, hml, hown, hts⟩ (kX10_goesOther l dC dI cI cJ cB h_this h_this_dayAt h_this_secondAt h_this_spans h_this_kept h_this_text h_this_row h_this_read h_this_many h_this_first h_this_lengths h_this_page N p1 p2 p3 p4 p5 i_this_2 j_this_3 f_this_spans r6 i_this_7 j_this_8 hc9 _) (kgV (kq q_1400 rfl) (kq q_1402 rfl) (kq q_47 rfl) (kq q_66 rfl) (kq q_1403 rfl)) yd_X10_goesOther ⟨Nat.le_of_ble_eq_true rfl, Nat.le_of_ble_eq_true rfl⟩ hN hK hP hD [0, 1] rfl rfl (ci := 9) rfl rfl rfl rfl rfl hl.1 rfl (lv_room (Nat.le_of_ble_eq_true rfl)) dX10_isUnlike_22) hP hD hS hA [0, 1] rfl rfl (fun H locs hP hD hS => ?_)
  have hP : va_P (dC, dI) vwCl [cl_X10 h_this h_this_dayAt h_this_secondAt h_this_spans h_this_kept h_this_text h_this_row h_this_read h_this_many h_this_first h_this_lengths h_this_page i_this_7 j_this_8, (h_this_spans, .inl (cI, 24, .inl f_this_spans))] H := hP
  have hD : va_D A [cl_X10 h_this h_this_dayAt h_this_secondAt h_this_spans h_this_kept h_this_text h_this_row h_this_read h_this_many h_this_first h_this_lengths h_this_page i_this_7 j_this_8, (h_this_spans, .inl (cI, 24, .inl f_this_spans))] := hD
  refine lv_if_eq (tgt := 44) hx hb dX10_isUnlike_25 (by decide) (fun c10 => ?_) (fun c10 => ?_)
  · have h := ite_t c10 h
    refine lv_iconst (v := (0 : Int32)) hx hb dX10_isUnlike_44 (by decide) ?_
    obtain ⟨rfl, rfl, rfl⟩ := pj3 h
    exact hEnd _ _ _ _ hP hS dX10_isUnlike_45 rfl
  have h := ite_f c10 h
  refine lv_aload_n hx hb dX10_isUnlike_28 rfl (lv_at hl 0 rfl) ?_
  refine va_get (D := (dC, dI)) (ci := 9) (v := .long (j_this_8 25)) (C := RX10) (T := TX10) (N := 29) hx hb hts inX10 hown hK hP 0 rfl rfl 25 (by decide) (hts _ (kq q_1011 rfl)) (fun _ h9 => h9) rfl dX10_isUnlike_29 ?_
  refine lv_aload_n hx hb dX10_isUnlike_32 rfl (lv_at hl 0 rfl) ?_
  refine va_get (D := (dC, dI)) (ci := 9) (v := .long (j_this_8 26)) (C := RX10) (T := TX10) (N := 29) hx hb hts inX10 hown hK hP 0 rfl rfl 26 (by decide) (hts _ (kq q_1012 rfl)) (fun _ h9 => h9) rfl dX10_isUnlike_33 ?_
  refine W.lcmp hx hb dX10_isUnlike_36 ?_
  refine lv_if_eq (tgt := 44) hx hb dX10_isUnlike_37 (by decide) (fun c11 => ?_) (fun c11 => ?_)
  · have h := ite_t c11 h
    refine lv_iconst (v := (0 : Int32)) hx hb dX10_isUnlike_44 (by decide) ?_
    obtain ⟨rfl, rfl, rfl⟩ := pj3 h
    exact hEnd _ _ _ _ hP hS dX10_isUnlike_45 rfl
  have h := ite_f c11 h
  refine lv_iconst (v := (1 : Int32)) hx hb dX10_isUnlike_40 (by decide) ?_
  refine lv_goto (tgt := 45) hx hb dX10_isUnlike_41 (by decide) ?_
  obtain ⟨rfl, rfl, rfl⟩ := pj3 h
  exact hEnd _ _ _ _ hP hS dX10_isUnlike_45 rfl
noncomputable def fX10_fails_l72 (N : Nat) (f_this_spans : Nat → Int32) (n : Nat) : Int32 → Int32 → Int32 → Int32 → Int32 → Int32 → (Nat → Int32) → (Nat → Int64) → (Nat → Int64) → Option (Int32 × (Nat → Int32) × (Nat → Int64) × (Nat → Int64)) := Nat.rec (motive := fun _ => Int32 → Int32 → Int32 → Int32 → Int32 → Int32 → (Nat → Int32) → (Nat → Int64) → (Nat → Int64) → Option (Int32 × (Nat → Int32) × (Nat → Int64) × (Nat → Int64))) (fun _ _ _ _ _ _ _ _ _ => none) (fun _ K_72 v1 v2 v3 v4 v5 v6 i_this j_this f_this_row => (if (146097 : Int32) ≤ v6 then (some ((-2 : Int32), i_this, j_this, f_this_row)) else (bd1 (fX10_isDay N ((v5 + v6).toInt64)) fun r2 => (if r2 = (0 : Int32) then (some ((-2 : Int32), i_this, j_this, f_this_row)) else (bd3 (fX10_isUnlike N v1 v2 v3 v4 (v5 + v6) i_this j_this f_this_spans) fun r5 i_this_6 j_this_7 => (if r5 = (0 : Int32) then (nm (v6 + (1 : Int32)) fun z16 => (K_72 v1 v2 v3 v4 v5 z16 i_this_6 j_this_7 f_this_row)) else (bd2 (fX10_tell N (j_this_7 25) (upd i_this_6 8 (0 : Int32)) j_this_7 f_this_row) fun i_this_10 f_this_row_11 => (bd2 (fX10_tell N (j_this_7 26) i_this_10 j_this_7 f_this_row_11) fun i_this_13 f_this_row_14 => (some ((v5 + v6), i_this_13, j_this_7, f_this_row_14)))))))))) n
theorem fX10_fails_l72_s (N : Nat) (f_this_spans : Nat → Int32) (n : Nat) (v1 : Int32) (v2 : Int32) (v3 : Int32) (v4 : Int32) (v5 : Int32) (v6 : Int32) (i_this : Nat → Int32) (j_this : Nat → Int64) (f_this_row : Nat → Int64) : fX10_fails_l72 N f_this_spans (n + 1) v1 v2 v3 v4 v5 v6 i_this j_this f_this_row = (if (146097 : Int32) ≤ v6 then (some ((-2 : Int32), i_this, j_this, f_this_row)) else (bd1 (fX10_isDay N ((v5 + v6).toInt64)) fun r2 => (if r2 = (0 : Int32) then (some ((-2 : Int32), i_this, j_this, f_this_row)) else (bd3 (fX10_isUnlike N v1 v2 v3 v4 (v5 + v6) i_this j_this f_this_spans) fun r5 i_this_6 j_this_7 => (if r5 = (0 : Int32) then (nm (v6 + (1 : Int32)) fun z16 => ((fX10_fails_l72 N f_this_spans n) v1 v2 v3 v4 v5 z16 i_this_6 j_this_7 f_this_row)) else (bd2 (fX10_tell N (j_this_7 25) (upd i_this_6 8 (0 : Int32)) j_this_7 f_this_row) fun i_this_10 f_this_row_11 => (bd2 (fX10_tell N (j_this_7 26) i_this_10 j_this_7 f_this_row_11) fun i_this_13 f_this_row_14 => (some ((v5 + v6), i_this_13, j_this_7, f_this_row_14))))))))) := rfl
theorem fX10_fails_l72_0 (N : Nat) (f_this_spans : Nat → Int32) (v1 : Int32) (v2 : Int32) (v3 : Int32) (v4 : Int32) (v5 : Int32) (v6 : Int32) (i_this : Nat → Int32) (j_this : Nat → Int64) (f_this_row : Nat → Int64) : fX10_fails_l72 N f_this_spans 0 v1 v2 v3 v4 v5 v6 i_this j_this f_this_row = none := rfl
noncomputable def fX10_fails (N : Nat) (p1 : Int32) (p2 : Int32) (p3 : Int32) (p4 : Int32) (p5 : Int32) (i_this : Nat → Int32) (j_this : Nat → Int64) (f_this_spans : Nat → Int32) (f_this_row : Nat → Int64) : Option (Int32 × (Nat → Int32) × (Nat → Int64) × (Nat → Int64)) := (bd1 (fX10_in N p1.toInt64 (0 : Int64) (3 : Int64)) fun r17 => (if r17 = (0 : Int32) then (some ((-1 : Int32), (upd i_this 9 (0 : Int32)), j_this, f_this_row)) else (bd1 (fX10_isSlot N p2) fun r20 => (if r20 = (0 : Int32) then (some ((-1 : Int32), (upd i_this 9 (0 : Int32)), j_this, f_this_row)) else (bd1 (fX10_isSlot N p3) fun r23 => (if r23 = (0 : Int32) then (some ((-1 : Int32), (upd i_this 9 (0 : Int32)), j_this, f_this_row)) else (bd1 (fX10_isLaw N p4) fun r26 => (if r26 = (0 : Int32) then (some ((-1 : Int32), (upd i_this 9 (0 : Int32)), j_this, f_this_row)) else (bd1 (fX10_isDay N p5.toInt64) fun r29 => (if r29 = (0 : Int32) then (some ((-1 : Int32), (upd i_this 9 (0 : Int32)), j_this, f_this_row)) else (if p1 = (2 : Int32) then (bd1 (fX10_isBeyond N p2 (2 : Int64) (upd i_this 9 (0 : Int32)) j_this f_this_spans) fun r33 => (if r33 = (0 : Int32) then (fX10_fails_l72 N f_this_spans N p1 p2 p3 p4 p5 (0 : Int32) (upd i_this 9 (0 : Int32)) j_this f_this_row) else (some ((-9 : Int32), (upd i_this 9 (0 : Int32)), j_this, f_this_row)))) else (fX10_fails_l72 N f_this_spans N p1 p2 p3 p4 p5 (0 : Int32) (upd i_this 9 (0 : Int32)) j_this f_this_row))))))))))))
set_option maxHeartbeats 4000000 in
set_option maxRecDepth 100000 in
theorem kX10_fails (l : Launch) (dC : Nat → ClassId) (dI : Nat → Nat → Nat) (cI cJ cB : ClassId) (h_this h_this_dayAt h_this_secondAt h_this_spans h_this_kept h_this_text h_this_row h_this_read h_this_many h_this_first h_this_lengths h_this_page : Nat) (N : Nat) (p1 : Int32) (p2 : Int32) (p3 : Int32) (p4 : Int32) (p5 : Int32) (i_this : Nat → Int32) (j_this : Nat → Int64) (f_this_spans : Nat → Int32) (f_this_row : Nat → Int64) (r : Int32) (o_i_this : Nat → Int32) (o_j_this : Nat → Int64) (o_f_this_row : Nat → Int64) (hf : fX10_fails N p1 p2 p3 p4 p5 i_this j_this f_this_spans f_this_row = some (r, o_i_this, o_j_this, o_f_this_row)) : MI l yX10_fails (kws yX10_fails cX10_fails 7 (some .int)) (kR 8 201) (dC, dI) (kT cI cJ cB) [.ref h_this, .int p1, .int p2, .int p3, .int p4, .int p5] [cl_X10 h_this h_this_dayAt h_this_secondAt h_this_spans h_this_kept h_this_text h_this_row h_this_read h_this_many h_this_first h_this_lengths h_this_page i_this j_this, (h_this_spans, .inl (cI, 24, .inl f_this_spans)), (h_this_row, .inl (cJ, 16, .inr (.inl f_this_row)))] [cl_X10 h_this h_this_dayAt h_this_secondAt h_this_spans h_this_kept h_this_text h_this_row h_this_read h_this_many h_this_first h_this_lengths h_this_page o_i_this o_j_this, (h_this_spans, .inl (cI, 24, .inl f_this_spans)), (h_this_row, .inl (cJ, 16, .inr (.inl o_f_this_row)))] r := by
  refine MI.of (cc := cX10_fails) (maxL := 7) (by decide) (Nat.le_of_ble_eq_true rfl) (fun p e s m args below meth c A Q ls KC hN hK hP hD hA hl hEnd => ?_)
  obtain ⟨hx, hb, hml, hown, hts⟩ := KC
  have hown : s.vm.findClass "DateSpansModel" = some m.cls := hown
  have hl : lv_has ls 7 [(0, .ref h_this), (1, .int p1), (2, .int p2), (3, .int p3), (4, .int p4), (5, .int p5)] := hl
  have hS : va_S A s.heap s.heap [] := va_S.rf
  have LP_72 : ∀ n_72 : Nat, ∀ (v1 : Int32) (v2 : Int32) (v3 : Int32) (v4 : Int32) (v5 : Int32) (v6 : Int32) (i_this : Nat → Int32) (j_this : Nat → Int64) (f_this_row : Nat → Int64) (ls : Array Slot) (H : Heap) (locs : List Loc), fX10_fails_l72 N f_this_spans n_72 v1 v2 v3 v4 v5 v6 i_this j_this f_this_row = some (r, o_i_this, o_j_this, o_f_this_row) → lv_has ls 7 [(0, .ref h_this), (1, .int v1), (2, .int v2), (3, .int v3), (4, .int v4), (5, .int v5), (6, .int v6)] → va_P (dC, dI) vwCl [cl_X10 h_this h_this_dayAt h_this_secondAt h_this_spans h_this_kept h_this_text h_this_row h_this_read h_this_many h_this_first h_this_lengths h_this_page i_this j_this, (h_this_spans, .inl (cI, 24, .inl f_this_spans)), (h_this_row, .inl (cJ, 16, .inr (.inl f_this_row)))] H → va_D A [cl_X10 h_this h_this_dayAt h_this_secondAt h_this_spans h_this_kept h_this_text h_this_row h_this_read h_this_many h_this_first h_this_lengths h_this_page i_this j_this, (h_this_spans, .inl (cI, 24, .inl f_this_spans)), (h_this_row, .inl (cJ, 16, .inr (.inl f_this_row)))] → va_S A s.heap H locs → W p l e (kR 8 201) s m args below meth c H locs 0 0 Q (F0 m 72 ls []) := by
    intro n_72
    induction n_72 with
    | zero =>
      intro v1 v2 v3 v4 v5 v6 i_this j_this f_this_row ls H locs h hl hP hD hS
      rw [fX10_fails_l72_0] at h; cases h
    | succ n_72 ih_72 =>
      intro v1 v2 v3 v4 v5 v6 i_this j_this f_this_row ls H locs h hl hP hD hS
      rw [fX10_fails_l72_s] at h
      refine lv_iload hx hb dX10_fails_72 (lv_at hl 6 rfl) ?_
      refine lv_ldcw (v := (146097 : Int32)) hx hb hown (hts _ (kq q_1391 rfl)) dX10_fails_74 ?_
      refine lv_icmp_ge (tgt := 145) hx hb dX10_fails_77 (by decide) (fun c1 => ?_) (fun c1 => ?_)
      · have h := ite_t c1 h
        refine lv_bipush (v := (-2 : Int32)) hx hb dX10_fails_145 (by decide) ?_
        obtain ⟨rfl, rfl, rfl, rfl⟩ := pj4 h
        exact hEnd _ _ _ _ hP hS dX10_fails_147 rfl
      have h := ite_f c1 h
      refine lv_iload hx hb dX10_fails_80 (lv_at hl 5 rfl) ?_
      refine lv_iload hx hb dX10_fails_82 (lv_at hl 6 rfl) ?_
      refine lv_iadd hx hb dX10_fails_84 ?_
      refine lv_i2l hx hb dX10_fails_85 rfl ?_
      obtain ⟨r2, hc3, h⟩ := bd1_at h
      refine kjSI (kS0 (own := "DateSpansModel") (As := [.long ((v5 + v6).toInt64)]) (rest := []) ⟨hx, hb, hml, hown, hts⟩ (kX10_isDay l N ((v5 + v6).toInt64) r2 hc3) (kgS (kq q_1148 rfl) (kq q_1149 rfl) (kq q_66 rfl) (kq q_1150 rfl)) yd_X10_isDay ⟨Nat.le_of_ble_eq_true rfl, Nat.le_of_ble_eq_true rfl⟩ rfl rfl hl.1 rfl (lv_room (Nat.le_of_ble_eq_true rfl)) dX10_fails_86) ?_
      refine lv_if_eq (tgt := 145) hx hb dX10_fails_89 (by decide) (fun c4 => ?_) (fun c4 => ?_)
      · have h := ite_t c4 h
        refine lv_bipush (v := (-2 : Int32)) hx hb dX10_fails_145 (by decide) ?_
        obtain ⟨rfl, rfl, rfl, rfl⟩ := pj4 h
        exact hEnd _ _ _ _ hP hS dX10_fails_147 rfl
      have h := ite_f c4 h
      refine lv_aload_n hx hb dX10_fails_92 rfl (lv_at hl 0 rfl) ?_
      refine lv_iload_n hx hb dX10_fails_93 rfl (lv_at hl 1 rfl) ?_
      refine lv_iload_n hx hb dX10_fails_94 rfl (lv_at hl 2 rfl) ?_
      refine lv_iload_n hx hb dX10_fails_95 rfl (lv_at hl 3 rfl) ?_
      refine lv_iload hx hb dX10_fails_96 (lv_at hl 4 rfl) ?_
      refine lv_iload hx hb dX10_fails_98 (lv_at hl 5 rfl) ?_
      refine lv_iload hx hb dX10_fails_100 (lv_at hl 6 rfl) ?_
      refine lv_iadd hx hb dX10_fails_102 ?_
      obtain ⟨r5, i_this_6, j_this_7, hc8, h⟩ := bd3_at h
      refine kjI (kV (own := "DateSpansModel") (C := "DateSpansModel") (b := h_this) (As := [.int v1, .int v2, .int v3, .int v4, .int (v5 + v6)]) (rest := []) ⟨hx, hb, hml, hown, hts⟩ (kX10_isUnlike l dC dI cI cJ cB h_this h_this_dayAt h_this_secondAt h_this_spans h_this_kept h_this_text h_this_row h_this_read h_this_many h_this_first h_this_lengths h_this_page N v1 v2 v3 v4 (v5 + v6) i_this j_this f_this_spans r5 i_this_6 j_this_7 hc8 _) (kgV (kq q_1392 rfl) (kq q_1394 rfl) (kq q_45 rfl) (kq q_66 rfl) (kq q_1395 rfl)) yd_X10_isUnlike ⟨Nat.le_of_ble_eq_true rfl, Nat.le_of_ble_eq_true rfl⟩ hN hK hP hD [0, 1] rfl rfl (ci := 9) rfl rfl rfl rfl rfl hl.1 rfl (lv_room (Nat.le_of_ble_eq_true rfl)) dX10_fails_103) hP hD hS hA [0, 1] rfl rfl (fun H locs hP hD hS => ?_)
      have hP : va_P (dC, dI) vwCl [cl_X10 h_this h_this_dayAt h_this_secondAt h_this_spans h_this_kept h_this_text h_this_row h_this_read h_this_many h_this_first h_this_lengths h_this_page i_this_6 j_this_7, (h_this_spans, .inl (cI, 24, .inl f_this_spans)), (h_this_row, .inl (cJ, 16, .inr (.inl f_this_row)))] H := hP
      have hD : va_D A [cl_X10 h_this h_this_dayAt h_this_secondAt h_this_spans h_this_kept h_this_text h_this_row h_this_read h_this_many h_this_first h_this_lengths h_this_page i_this_6 j_this_7, (h_this_spans, .inl (cI, 24, .inl f_this_spans)), (h_this_row, .inl (cJ, 16, .inr (.inl f_this_row)))] := hD
      refine lv_if_ne (tgt := 112) hx hb dX10_fails_106 (by decide) (fun c9 => ?_) (fun c9 => ?_)
      · have h := ite_f c9 h
        refine lv_aload_n hx hb dX10_fails_112 rfl (lv_at hl 0 rfl) ?_
        refine lv_iconst (v := (0 : Int32)) hx hb dX10_fails_113 (by decide) ?_
        refine va_put (D := (dC, dI)) (ci := 9) (v := .int (0 : Int32)) (ty := .int) (C := RX10) (T := TX10) (N := 29) hx hb hts inX10 tyX10 tyX10_ok nmX10 hown hK hP hD hS 0 rfl rfl 8 (by decide) (hts _ (kq q_994 rfl)) (fun _ h9 => h9) rfl (by decide +kernel) rfl rfl (Nat.le_of_ble_eq_true rfl) dX10_fails_114 (fun H locs hP hD hS => ?_)
        have hP : va_P (dC, dI) vwCl [(h_this, .inr (9, [.ref h_this_dayAt, .ref h_this_secondAt, .ref h_this_spans, .ref h_this_kept, .int (i_this_6 4), .ref h_this_text, .int (i_this_6 6), .ref h_this_row, .int (0 : Int32), .int (i_this_6 9), .int (i_this_6 10), .int (i_this_6 11), .int (i_this_6 12), .int (i_this_6 13), .int (i_this_6 14), .int (i_this_6 15), .int (i_this_6 16), .int (i_this_6 17), .int (i_this_6 18), .ref h_this_read, .long (j_this_7 20), .ref h_this_many, .ref h_this_first, .ref h_this_lengths, .int (i_this_6 24), .long (j_this_7 25), .long (j_this_7 26), .ref h_this_page, .int (i_this_6 28)])), (h_this_spans, .inl (cI, 24, .inl f_this_spans)), (h_this_row, .inl (cJ, 16, .inr (.inl f_this_row)))] H := hP
        have hD : va_D A [(h_this, .inr (9, [.ref h_this_dayAt, .ref h_this_secondAt, .ref h_this_spans, .ref h_this_kept, .int (i_this_6 4), .ref h_this_text, .int (i_this_6 6), .ref h_this_row, .int (0 : Int32), .int (i_this_6 9), .int (i_this_6 10), .int (i_this_6 11), .int (i_this_6 12), .int (i_this_6 13), .int (i_this_6 14), .int (i_this_6 15), .int (i_this_6 16), .int (i_this_6 17), .int (i_this_6 18), .ref h_this_read, .long (j_this_7 20), .ref h_this_many, .ref h_this_first, .ref h_this_lengths, .int (i_this_6 24), .long (j_this_7 25), .long (j_this_7 26), .ref h_this_page, .int (i_this_6 28)])), (h_this_spans, .inl (cI, 24, .inl f_this_spans)), (h_this_row, .inl (cJ, 16, .inr (.inl f_this_row)))] := hD
        refine lv_aload_n hx hb dX10_fails_117 rfl (lv_at hl 0 rfl) ?_
        refine lv_aload_n hx hb dX10_fails_118 rfl (lv_at hl 0 rfl) ?_
        refine va_get (D := (dC, dI)) (ci := 9) (v := .long (j_this_7 25)) (C := RX10) (T := TX10) (N := 29) hx hb hts inX10 hown hK hP 0 rfl rfl 25 (by decide) (hts _ (kq q_1011 rfl)) (fun _ h9 => h9) rfl dX10_fails_119 ?_
        have hP : va_P (dC, dI) vwCl [cl_X10 h_this h_this_dayAt h_this_secondAt h_this_spans h_this_kept h_this_text h_this_row h_this_read h_this_many h_this_first h_this_lengths h_this_page (upd i_this_6 8 (0 : Int32)) j_this_7, (h_this_spans, .inl (cI, 24, .inl f_this_spans)), (h_this_row, .inl (cJ, 16, .inr (.inl f_this_row)))] H := hP
        have hD : va_D A [cl_X10 h_this h_this_dayAt h_this_secondAt h_this_spans h_this_kept h_this_text h_this_row h_this_read h_this_many h_this_first h_this_lengths h_this_page (upd i_this_6 8 (0 : Int32)) j_this_7, (h_this_spans, .inl (cI, 24, .inl f_this_spans)), (h_this_row, .inl (cJ, 16, .inr (.inl f_this_row)))] := hD
        obtain ⟨i_this_10, f_this_row_11, hc12, h⟩ := bd2_at h
        refine kjV (kV (own := "DateSpansModel") (C := "DateSpansModel") (b := h_this) (As := [.long (j_this_7 25)]) (rest := []) ⟨hx, hb, hml, hown, hts⟩ (kX10_tell l dC dI cI cJ cB h_this h_this_dayAt h_this_secondAt h_this_spans h_this_kept h_this_text h_this_row h_this_read h_this_many h_this_first h_this_lengths h_this_page N (j_this_7 25) (upd i_this_6 8 (0 : Int32)) j_this_7 f_this_row i_this_10 f_this_row_11 hc12 _) (kgV (kq q_1221 rfl) (kq q_1223 rfl) (kq q_29 rfl) (kq q_66 rfl) (kq q_1224 rfl)) yd_X10_tell ⟨Nat.le_of_ble_eq_true rfl, Nat.le_of_ble_eq_true rfl⟩ hN hK hP hD [0, 2] rfl rfl (ci := 9) rfl rfl rfl rfl rfl hl.1 rfl (lv_room (Nat.le_of_ble_eq_true rfl)) dX10_fails_122) hP hD hS hA [0, 2] rfl rfl (fun H locs hP hD hS => ?_)
        have hP : va_P (dC, dI) vwCl [cl_X10 h_this h_this_dayAt h_this_secondAt h_this_spans h_this_kept h_this_text h_this_row h_this_read h_this_many h_this_first h_this_lengths h_this_page i_this_10 j_this_7, (h_this_spans, .inl (cI, 24, .inl f_this_spans)), (h_this_row, .inl (cJ, 16, .inr (.inl f_this_row_11)))] H := hP
        have hD : va_D A [cl_X10 h_this h_this_dayAt h_this_secondAt h_this_spans h_this_kept h_this_text h_this_row h_this_read h_this_many h_this_first h_this_lengths h_this_page i_this_10 j_this_7, (h_this_spans, .inl (cI, 24, .inl f_this_spans)), (h_this_row, .inl (cJ, 16, .inr (.inl f_this_row_11)))] := hD
        refine lv_aload_n hx hb dX10_fails_125 rfl (lv_at hl 0 rfl) ?_
        refine lv_aload_n hx hb dX10_fails_126 rfl (lv_at hl 0 rfl) ?_
        refine va_get (D := (dC, dI)) (ci := 9) (v := .long (j_this_7 26)) (C := RX10) (T := TX10) (N := 29) hx hb hts inX10 hown hK hP 0 rfl rfl 26 (by decide) (hts _ (kq q_1012 rfl)) (fun _ h9 => h9) rfl dX10_fails_127 ?_
        obtain ⟨i_this_13, f_this_row_14, hc15, h⟩ := bd2_at h
        refine kjV (kV (own := "DateSpansModel") (C := "DateSpansModel") (b := h_this) (As := [.long (j_this_7 26)]) (rest := []) ⟨hx, hb, hml, hown, hts⟩ (kX10_tell l dC dI cI cJ cB h_this h_this_dayAt h_this_secondAt h_this_spans h_this_kept h_this_text h_this_row h_this_read h_this_many h_this_first h_this_lengths h_this_page N (j_this_7 26) i_this_10 j_this_7 f_this_row_11 i_this_13 f_this_row_14 hc15 _) (kgV (kq q_1221 rfl) (kq q_1223 rfl) (kq q_29 rfl) (kq q_66 rfl) (kq q_1224 rfl)) yd_X10_tell ⟨Nat.le_of_ble_eq_true rfl, Nat.le_of_ble_eq_true rfl⟩ hN hK hP hD [0, 2] rfl rfl (ci := 9) rfl rfl rfl rfl rfl hl.1 rfl (lv_room (Nat.le_of_ble_eq_true rfl)) dX10_fails_130) hP hD hS hA [0, 2] rfl rfl (fun H locs hP hD hS => ?_)
        have hP : va_P (dC, dI) vwCl [cl_X10 h_this h_this_dayAt h_this_secondAt h_this_spans h_this_kept h_this_text h_this_row h_this_read h_this_many h_this_first h_this_lengths h_this_page i_this_13 j_this_7, (h_this_spans, .inl (cI, 24, .inl f_this_spans)), (h_this_row, .inl (cJ, 16, .inr (.inl f_this_row_14)))] H := hP
        have hD : va_D A [cl_X10 h_this h_this_dayAt h_this_secondAt h_this_spans h_this_kept h_this_text h_this_row h_this_read h_this_many h_this_first h_this_lengths h_this_page i_this_13 j_this_7, (h_this_spans, .inl (cI, 24, .inl f_this_spans)), (h_this_row, .inl (cJ, 16, .inr (.inl f_this_row_14)))] := hD
        refine lv_iload hx hb dX10_fails_133 (lv_at hl 5 rfl) ?_
        refine lv_iload hx hb dX10_fails_135 (lv_at hl 6 rfl) ?_
        refine lv_iadd hx hb dX10_fails_137 ?_
        obtain ⟨rfl, rfl, rfl, rfl⟩ := pj4 h
        exact hEnd _ _ _ _ hP hS dX10_fails_138 rfl
      have h := ite_t c9 h
      refine lv_goto (tgt := 139) hx hb dX10_fails_109 (by decide) ?_
      obtain ⟨z16, ez16⟩ : ∃ y : Int32, y = (v6 + (1 : Int32)) := ⟨_, rfl⟩
      have h := nm_at ez16 h
      refine lv_iinc (v := z16) (lv' := [(6, .int z16), (0, .ref h_this), (1, .int v1), (2, .int v2), (3, .int v3), (4, .int v4), (5, .int v5)]) hx hb dX10_fails_139 hl (k := 6) rfl (by rw [ez16]; rfl) (by decide) rfl (fun ls hl => ?_)
      refine lv_goto (tgt := 72) hx hb dX10_fails_142 (by decide) ?_
      exact ih_72 _ _ _ _ _ _ _ _ _ _ _ _ h (lv_sub hl [1, 2, 3, 4, 5, 6, 0] rfl) hP hD hS
  have h := hf
  unfold fX10_fails at h
  refine lv_aload_n hx hb dX10_fails_0 rfl (lv_at hl 0 rfl) ?_
  refine lv_iconst (v := (0 : Int32)) hx hb dX10_fails_1 (by decide) ?_
  refine va_put (D := (dC, dI)) (ci := 9) (v := .int (0 : Int32)) (ty := .int) (C := RX10) (T := TX10) (N := 29) hx hb hts inX10 tyX10 tyX10_ok nmX10 hown hK hP hD hS 0 rfl rfl 9 (by decide) (hts _ (kq q_995 rfl)) (fun _ h9 => h9) rfl (by decide +kernel) rfl rfl (Nat.le_of_ble_eq_true rfl) dX10_fails_2 (fun H locs hP hD hS => ?_)
  have hP : va_P (dC, dI) vwCl [(h_this, .inr (9, [.ref h_this_dayAt, .ref h_this_secondAt, .ref h_this_spans, .ref h_this_kept, .int (i_this 4), .ref h_this_text, .int (i_this 6), .ref h_this_row, .int (i_this 8), .int (0 : Int32), .int (i_this 10), .int (i_this 11), .int (i_this 12), .int (i_this 13), .int (i_this 14), .int (i_this 15), .int (i_this 16), .int (i_this 17), .int (i_this 18), .ref h_this_read, .long (j_this 20), .ref h_this_many, .ref h_this_first, .ref h_this_lengths, .int (i_this 24), .long (j_this 25), .long (j_this 26), .ref h_this_page, .int (i_this 28)])), (h_this_spans, .inl (cI, 24, .inl f_this_spans)), (h_this_row, .inl (cJ, 16, .inr (.inl f_this_row)))] H := hP
  have hD : va_D A [(h_this, .inr (9, [.ref h_this_dayAt, .ref h_this_secondAt, .ref h_this_spans, .ref h_this_kept, .int (i_this 4), .ref h_this_text, .int (i_this 6), .ref h_this_row, .int (i_this 8), .int (0 : Int32), .int (i_this 10), .int (i_this 11), .int (i_this 12), .int (i_this 13), .int (i_this 14), .int (i_this 15), .int (i_this 16), .int (i_this 17), .int (i_this 18), .ref h_this_read, .long (j_this 20), .ref h_this_many, .ref h_this_first, .ref h_this_lengths, .int (i_this 24), .long (j_this 25), .long (j_this 26), .ref h_this_page, .int (i_this 28)])), (h_this_spans, .inl (cI, 24, .inl f_this_spans)), (h_this_row, .inl (cJ, 16, .inr (.inl f_this_row)))] := hD
  refine lv_iload_n hx hb dX10_fails_5 rfl (lv_at hl 1 rfl) ?_
  refine lv_i2l hx hb dX10_fails_6 rfl ?_
  refine lv_lconst (v := (0 : Int64)) hx hb dX10_fails_7 (by decide) ?_
  refine lv_ldc2 (v := (3 : Int64)) hx hb hown (hts _ (kq q_1278 rfl)) dX10_fails_8 ?_
  have hP : va_P (dC, dI) vwCl [cl_X10 h_this h_this_dayAt h_this_secondAt h_this_spans h_this_kept h_this_text h_this_row h_this_read h_this_many h_this_first h_this_lengths h_this_page (upd i_this 9 (0 : Int32)) j_this, (h_this_spans, .inl (cI, 24, .inl f_this_spans)), (h_this_row, .inl (cJ, 16, .inr (.inl f_this_row)))] H := hP
  have hD : va_D A [cl_X10 h_this h_this_dayAt h_this_secondAt h_this_spans h_this_kept h_this_text h_this_row h_this_read h_this_many h_this_first h_this_lengths h_this_page (upd i_this 9 (0 : Int32)) j_this, (h_this_spans, .inl (cI, 24, .inl f_this_spans)), (h_this_row, .inl (cJ, 16, .inr (.inl f_this_row)))] := hD
  obtain ⟨r17, hc18, h⟩ := bd1_at h
  refine kjSI (kS0 (own := "DateSpansModel") (As := [.long p1.toInt64, .long (0 : Int64), .long (3 : Int64)]) (rest := []) ⟨hx, hb, hml, hown, hts⟩ (kX10_in l N p1.toInt64 (0 : Int64) (3 : Int64) r17 hc18) (kgS (kq q_1086 rfl) (kq q_1087 rfl) (kq q_66 rfl) (kq q_1088 rfl)) yd_X10_in ⟨Nat.le_of_ble_eq_true rfl, Nat.le_of_ble_eq_true rfl⟩ rfl rfl hl.1 rfl (lv_room (Nat.le_of_ble_eq_true rfl)) dX10_fails_11) ?_
  refine lv_if_eq (tgt := 48) hx hb dX10_fails_14 (by decide) (fun c19 => ?_) (fun c19 => ?_)
  · have h := ite_t c19 h
    refine lv_iconst (v := (-1 : Int32)) hx hb dX10_fails_48 (by decide) ?_
    obtain ⟨rfl, rfl, rfl, rfl⟩ := pj4 h
    exact hEnd _ _ _ _ hP hS dX10_fails_49 rfl
  have h := ite_f c19 h
  refine lv_iload_n hx hb dX10_fails_17 rfl (lv_at hl 2 rfl) ?_
  obtain ⟨r20, hc21, h⟩ := bd1_at h
  refine kjSI (kS0 (own := "DateSpansModel") (As := [.int p2]) (rest := []) ⟨hx, hb, hml, hown, hts⟩ (kX10_isSlot l N p2 r20 hc21) (kgS (kq q_1123 rfl) (kq q_1124 rfl) (kq q_66 rfl) (kq q_1125 rfl)) yd_X10_isSlot ⟨Nat.le_of_ble_eq_true rfl, Nat.le_of_ble_eq_true rfl⟩ rfl rfl hl.1 rfl (lv_room (Nat.le_of_ble_eq_true rfl)) dX10_fails_18) ?_
  refine lv_if_eq (tgt := 48) hx hb dX10_fails_21 (by decide) (fun c22 => ?_) (fun c22 => ?_)
  · have h := ite_t c22 h
    refine lv_iconst (v := (-1 : Int32)) hx hb dX10_fails_48 (by decide) ?_
    obtain ⟨rfl, rfl, rfl, rfl⟩ := pj4 h
    exact hEnd _ _ _ _ hP hS dX10_fails_49 rfl
  have h := ite_f c22 h
  refine lv_iload_n hx hb dX10_fails_24 rfl (lv_at hl 3 rfl) ?_
  obtain ⟨r23, hc24, h⟩ := bd1_at h
  refine kjSI (kS0 (own := "DateSpansModel") (As := [.int p3]) (rest := []) ⟨hx, hb, hml, hown, hts⟩ (kX10_isSlot l N p3 r23 hc24) (kgS (kq q_1123 rfl) (kq q_1124 rfl) (kq q_66 rfl) (kq q_1125 rfl)) yd_X10_isSlot ⟨Nat.le_of_ble_eq_true rfl, Nat.le_of_ble_eq_true rfl⟩ rfl rfl hl.1 rfl (lv_room (Nat.le_of_ble_eq_true rfl)) dX10_fails_25) ?_
  refine lv_if_eq (tgt := 48) hx hb dX10_fails_28 (by decide) (fun c25 => ?_) (fun c25 => ?_)
  · have h := ite_t c25 h
    refine lv_iconst (v := (-1 : Int32)) hx hb dX10_fails_48 (by decide) ?_
    obtain ⟨rfl, rfl, rfl, rfl⟩ := pj4 h
    exact hEnd _ _ _ _ hP hS dX10_fails_49 rfl
  have h := ite_f c25 h
  refine lv_iload hx hb dX10_fails_31 (lv_at hl 4 rfl) ?_
  obtain ⟨r26, hc27, h⟩ := bd1_at h
  refine kjSI (kS0 (own := "DateSpansModel") (As := [.int p4]) (rest := []) ⟨hx, hb, hml, hown, hts⟩ (kX10_isLaw l N p4 r26 hc27) (kgS (kq q_1275 rfl) (kq q_1276 rfl) (kq q_66 rfl) (kq q_1277 rfl)) yd_X10_isLaw ⟨Nat.le_of_ble_eq_true rfl, Nat.le_of_ble_eq_true rfl⟩ rfl rfl hl.1 rfl (lv_room (Nat.le_of_ble_eq_true rfl)) dX10_fails_33) ?_
  refine lv_if_eq (tgt := 48) hx hb dX10_fails_36 (by decide) (fun c28 => ?_) (fun c28 => ?_)
  · have h := ite_t c28 h
    refine lv_iconst (v := (-1 : Int32)) hx hb dX10_fails_48 (by decide) ?_
    obtain ⟨rfl, rfl, rfl, rfl⟩ := pj4 h
    exact hEnd _ _ _ _ hP hS dX10_fails_49 rfl
  have h := ite_f c28 h
  refine lv_iload hx hb dX10_fails_39 (lv_at hl 5 rfl) ?_
  refine lv_i2l hx hb dX10_fails_41 rfl ?_
  obtain ⟨r29, hc30, h⟩ := bd1_at h
  refine kjSI (kS0 (own := "DateSpansModel") (As := [.long p5.toInt64]) (rest := []) ⟨hx, hb, hml, hown, hts⟩ (kX10_isDay l N p5.toInt64 r29 hc30) (kgS (kq q_1148 rfl) (kq q_1149 rfl) (kq q_66 rfl) (kq q_1150 rfl)) yd_X10_isDay ⟨Nat.le_of_ble_eq_true rfl, Nat.le_of_ble_eq_true rfl⟩ rfl rfl hl.1 rfl (lv_room (Nat.le_of_ble_eq_true rfl)) dX10_fails_42) ?_
  refine lv_if_ne (tgt := 50) hx hb dX10_fails_45 (by decide) (fun c31 => ?_) (fun c31 => ?_)
  · have h := ite_f c31 h
    refine lv_iload_n hx hb dX10_fails_50 rfl (lv_at hl 1 rfl) ?_
    refine lv_iconst (v := (2 : Int32)) hx hb dX10_fails_51 (by decide) ?_
    refine lv_icmp_ne (tgt := 69) hx hb dX10_fails_52 (by decide) (fun c32 => ?_) (fun c32 => ?_)
    · have h := ite_f c32 h
      refine lv_iconst (v := (0 : Int32)) hx hb dX10_fails_69 (by decide) ?_
      refine lv_istore (lv' := [(6, .int (0 : Int32)), (0, .ref h_this), (1, .int p1), (2, .int p2), (3, .int p3), (4, .int p4), (5, .int p5)]) hx hb dX10_fails_70 hl (by decide) rfl (fun ls hl => ?_)
      exact LP_72 N _ _ _ _ _ _ _ _ _ _ _ _ h (lv_sub hl [1, 2, 3, 4, 5, 6, 0] rfl) hP hD hS
    have h := ite_t c32 h
    refine lv_aload_n hx hb dX10_fails_55 rfl (lv_at hl 0 rfl) ?_
    refine lv_iload_n hx hb dX10_fails_56 rfl (lv_at hl 2 rfl) ?_
    refine lv_ldc2 (v := (2 : Int64)) hx hb hown (hts _ (kq q_1248 rfl)) dX10_fails_57 ?_
    obtain ⟨r33, hc34, h⟩ := bd1_at h
    refine kjI (kV (own := "DateSpansModel") (C := "DateSpansModel") (b := h_this) (As := [.int p2, .long (2 : Int64)]) (rest := []) ⟨hx, hb, hml, hown, hts⟩ (kX10_isBeyond l dC dI cI cJ cB h_this h_this_dayAt h_this_secondAt h_this_spans h_this_kept h_this_text h_this_row h_this_read h_this_many h_this_first h_this_lengths h_this_page N p2 (2 : Int64) (upd i_this 9 (0 : Int32)) j_this f_this_spans r33 hc34 _) (kgV (kq q_1387 rfl) (kq q_1389 rfl) (kq q_44 rfl) (kq q_66 rfl) (kq q_1390 rfl)) yd_X10_isBeyond ⟨Nat.le_of_ble_eq_true rfl, Nat.le_of_ble_eq_true rfl⟩ hN hK hP hD [0, 1] rfl rfl (ci := 9) rfl rfl rfl rfl rfl hl.1 rfl (lv_room (Nat.le_of_ble_eq_true rfl)) dX10_fails_60) hP hD hS hA [0, 1] rfl rfl (fun H locs hP hD hS => ?_)
    have hP : va_P (dC, dI) vwCl [cl_X10 h_this h_this_dayAt h_this_secondAt h_this_spans h_this_kept h_this_text h_this_row h_this_read h_this_many h_this_first h_this_lengths h_this_page (upd i_this 9 (0 : Int32)) j_this, (h_this_spans, .inl (cI, 24, .inl f_this_spans)), (h_this_row, .inl (cJ, 16, .inr (.inl f_this_row)))] H := hP
    have hD : va_D A [cl_X10 h_this h_this_dayAt h_this_secondAt h_this_spans h_this_kept h_this_text h_this_row h_this_read h_this_many h_this_first h_this_lengths h_this_page (upd i_this 9 (0 : Int32)) j_this, (h_this_spans, .inl (cI, 24, .inl f_this_spans)), (h_this_row, .inl (cJ, 16, .inr (.inl f_this_row)))] := hD
    refine lv_if_eq (tgt := 69) hx hb dX10_fails_63 (by decide) (fun c35 => ?_) (fun c35 => ?_)
    · have h := ite_t c35 h
      refine lv_iconst (v := (0 : Int32)) hx hb dX10_fails_69 (by decide) ?_
      refine lv_istore (lv' := [(6, .int (0 : Int32)), (0, .ref h_this), (1, .int p1), (2, .int p2), (3, .int p3), (4, .int p4), (5, .int p5)]) hx hb dX10_fails_70 hl (by decide) rfl (fun ls hl => ?_)
      exact LP_72 N _ _ _ _ _ _ _ _ _ _ _ _ h (lv_sub hl [1, 2, 3, 4, 5, 6, 0] rfl) hP hD hS
    have h := ite_f c35 h
    refine lv_bipush (v := (-9 : Int32)) hx hb dX10_fails_66 (by decide) ?_
    obtain ⟨rfl, rfl, rfl, rfl⟩ := pj4 h
    exact hEnd _ _ _ _ hP hS dX10_fails_68 rfl
  have h := ite_t c31 h
  refine lv_iconst (v := (-1 : Int32)) hx hb dX10_fails_48 (by decide) ?_
  obtain ⟨rfl, rfl, rfl, rfl⟩ := pj4 h
  exact hEnd _ _ _ _ hP hS dX10_fails_49 rfl
noncomputable def fX10_often_l74 (N : Nat) (f_this_spans : Nat → Int32) (n : Nat) : Int32 → Int32 → Int32 → Int32 → Int32 → Int64 → Int32 → Int32 → (Nat → Int32) → (Nat → Int64) → (Nat → Int64) → Option (Int32 × (Nat → Int32) × (Nat → Int64) × (Nat → Int64)) := Nat.rec (motive := fun _ => Int32 → Int32 → Int32 → Int32 → Int32 → Int64 → Int32 → Int32 → (Nat → Int32) → (Nat → Int64) → (Nat → Int64) → Option (Int32 × (Nat → Int32) × (Nat → Int64) × (Nat → Int64))) (fun _ _ _ _ _ _ _ _ _ _ _ => none) (fun _ K_74 v1 v2 v3 v4 v5 v6 v8 v9 i_this j_this f_this_row => (if (876216 : Int32) ≤ v9 then (bd2 (fX10_tell N v6 (upd i_this 8 (0 : Int32)) j_this f_this_row) fun i_this_2 f_this_row_3 => (bd2 (fX10_tell N v8.toInt64 i_this_2 j_this f_this_row_3) fun i_this_5 f_this_row_6 => (some (v5, i_this_5, j_this, f_this_row_6)))) else (bd3 (fX10_isUnlike N v1 v2 v3 v4 v9 i_this j_this f_this_spans) fun r8 i_this_9 j_this_10 => (if r8 = (0 : Int32) then (nm (v9 + (1 : Int32)) fun z19 => (K_74 v1 v2 v3 v4 v5 v6 v8 z19 i_this_9 j_this_10 f_this_row)) else (nm (v5 + (1 : Int32)) fun z13 => (bd1 (fX10_sizeOf N ((j_this_10 25) - (j_this_10 26))) fun r14 => (if (0 : Int32) < (lg_cmp r14 v6) then (nm (v9 + (1 : Int32)) fun z17 => (K_74 v1 v2 v3 v4 z13 r14 v9 z17 i_this_9 j_this_10 f_this_row)) else (nm (v9 + (1 : Int32)) fun z18 => (K_74 v1 v2 v3 v4 z13 v6 v8 z18 i_this_9 j_this_10 f_this_row))))))))) n
theorem fX10_often_l74_s (N : Nat) (f_this_spans : Nat → Int32) (n : Nat) (v1 : Int32) (v2 : Int32) (v3 : Int32) (v4 : Int32) (v5 : Int32) (v6 : Int64) (v8 : Int32) (v9 : Int32) (i_this : Nat → Int32) (j_this : Nat → Int64) (f_this_row : Nat → Int64) : fX10_often_l74 N f_this_spans (n + 1) v1 v2 v3 v4 v5 v6 v8 v9 i_this j_this f_this_row = (if (876216 : Int32) ≤ v9 then (bd2 (fX10_tell N v6 (upd i_this 8 (0 : Int32)) j_this f_this_row) fun i_this_2 f_this_row_3 => (bd2 (fX10_tell N v8.toInt64 i_this_2 j_this f_this_row_3) fun i_this_5 f_this_row_6 => (some (v5, i_this_5, j_this, f_this_row_6)))) else (bd3 (fX10_isUnlike N v1 v2 v3 v4 v9 i_this j_this f_this_spans) fun r8 i_this_9 j_this_10 => (if r8 = (0 : Int32) then (nm (v9 + (1 : Int32)) fun z19 => ((fX10_often_l74 N f_this_spans n) v1 v2 v3 v4 v5 v6 v8 z19 i_this_9 j_this_10 f_this_row)) else (nm (v5 + (1 : Int32)) fun z13 => (bd1 (fX10_sizeOf N ((j_this_10 25) - (j_this_10 26))) fun r14 => (if (0 : Int32) < (lg_cmp r14 v6) then (nm (v9 + (1 : Int32)) fun z17 => ((fX10_often_l74 N f_this_spans n) v1 v2 v3 v4 z13 r14 v9 z17 i_this_9 j_this_10 f_this_row)) else (nm (v9 + (1 : Int32)) fun z18 => ((fX10_often_l74 N f_this_spans n) v1 v2 v3 v4 z13 v6 v8 z18 i_this_9 j_this_10 f_this_row)))))))) := rfl
theorem fX10_often_l74_0 (N : Nat) (f_this_spans : Nat → Int32) (v1 : Int32) (v2 : Int32) (v3 : Int32) (v4 : Int32) (v5 : Int32) (v6 : Int64) (v8 : Int32) (v9 : Int32) (i_this : Nat → Int32) (j_this : Nat → Int64) (f_this_row : Nat → Int64) : fX10_often_l74 N f_this_spans 0 v1 v2 v3 v4 v5 v6 v8 v9 i_this j_this f_this_row = none := rfl
noncomputable def fX10_often (N : Nat) (p1 : Int32) (p2 : Int32) (p3 : Int32) (p4 : Int32) (i_this : Nat → Int32) (j_this : Nat → Int64) (f_this_spans : Nat → Int32) (f_this_row : Nat → Int64) : Option (Int32 × (Nat → Int32) × (Nat → Int64) × (Nat → Int64)) := (bd1 (fX10_in N p1.toInt64 (0 : Int64) (3 : Int64)) fun r20 => (if r20 = (0 : Int32) then (some ((-1 : Int32), (upd i_this 9 (0 : Int32)), j_this, f_this_row)) else (bd1 (fX10_isSlot N p2) fun r23 => (if r23 = (0 : Int32) then (some ((-1 : Int32), (upd i_this 9 (0 : Int32)), j_this, f_this_row)) else (bd1 (fX10_isSlot N p3) fun r26 => (if r26 = (0 : Int32) then (some ((-1 : Int32), (upd i_this 9 (0 : Int32)), j_this, f_this_row)) else (bd1 (fX10_isLaw N p4) fun r29 => (if r29 = (0 : Int32) then (some ((-1 : Int32), (upd i_this 9 (0 : Int32)), j_this, f_this_row)) else (if p1 = (2 : Int32) then (bd1 (fX10_isBeyond N p2 (2 : Int64) (upd i_this 9 (0 : Int32)) j_this f_this_spans) fun r33 => (if r33 = (0 : Int32) then (fX10_often_l74 N f_this_spans N p1 p2 p3 p4 (0 : Int32) (0 : Int64) (-1 : Int32) (730119 : Int32) (upd i_this 9 (0 : Int32)) j_this f_this_row) else (some ((-9 : Int32), (upd i_this 9 (0 : Int32)), j_this, f_this_row)))) else (fX10_often_l74 N f_this_spans N p1 p2 p3 p4 (0 : Int32) (0 : Int64) (-1 : Int32) (730119 : Int32) (upd i_this 9 (0 : Int32)) j_this f_this_row))))))))))
set_option maxHeartbeats 4000000 in
set_option maxRecDepth 100000 in
theorem kX10_often (l : Launch) (dC : Nat → ClassId) (dI : Nat → Nat → Nat) (cI cJ cB : ClassId) (h_this h_this_dayAt h_this_secondAt h_this_spans h_this_kept h_this_text h_this_row h_this_read h_this_many h_this_first h_this_lengths h_this_page : Nat) (N : Nat) (p1 : Int32) (p2 : Int32) (p3 : Int32) (p4 : Int32) (i_this : Nat → Int32) (j_this : Nat → Int64) (f_this_spans : Nat → Int32) (f_this_row : Nat → Int64) (r : Int32) (o_i_this : Nat → Int32) (o_j_this : Nat → Int64) (o_f_this_row : Nat → Int64) (hf : fX10_often N p1 p2 p3 p4 i_this j_this f_this_spans f_this_row = some (r, o_i_this, o_j_this, o_f_this_row)) : MI l yX10_often (kws yX10_often cX10_often 12 (some .int)) (kR 8 201) (dC, dI) (kT cI cJ cB) [.ref h_this, .int p1, .int p2, .int p3, .int p4] [cl_X10 h_this h_this_dayAt h_this_secondAt h_this_spans h_this_kept h_this_text h_this_row h_this_read h_this_many h_this_first h_this_lengths h_this_page i_this j_this, (h_this_spans, .inl (cI, 24, .inl f_this_spans)), (h_this_row, .inl (cJ, 16, .inr (.inl f_this_row)))] [cl_X10 h_this h_this_dayAt h_this_secondAt h_this_spans h_this_kept h_this_text h_this_row h_this_read h_this_many h_this_first h_this_lengths h_this_page o_i_this o_j_this, (h_this_spans, .inl (cI, 24, .inl f_this_spans)), (h_this_row, .inl (cJ, 16, .inr (.inl o_f_this_row)))] r := by
  refine MI.of (cc := cX10_often) (maxL := 12) (by decide) (Nat.le_of_ble_eq_true rfl) (fun p e s m args below meth c A Q ls KC hN hK hP hD hA hl hEnd => ?_)
  obtain ⟨hx, hb, hml, hown, hts⟩ := KC
  have hown : s.vm.findClass "DateSpansModel" = some m.cls := hown
  have hl : lv_has ls 12 [(0, .ref h_this), (1, .int p1), (2, .int p2), (3, .int p3), (4, .int p4)] := hl
  have hS : va_S A s.heap s.heap [] := va_S.rf
  have LP_74 : ∀ n_74 : Nat, ∀ (v1 : Int32) (v2 : Int32) (v3 : Int32) (v4 : Int32) (v5 : Int32) (v6 : Int64) (v8 : Int32) (v9 : Int32) (i_this : Nat → Int32) (j_this : Nat → Int64) (f_this_row : Nat → Int64) (ls : Array Slot) (H : Heap) (locs : List Loc), fX10_often_l74 N f_this_spans n_74 v1 v2 v3 v4 v5 v6 v8 v9 i_this j_this f_this_row = some (r, o_i_this, o_j_this, o_f_this_row) → lv_has ls 12 [(0, .ref h_this), (1, .int v1), (2, .int v2), (3, .int v3), (4, .int v4), (5, .int v5), (6, .long v6), (8, .int v8), (9, .int v9)] → va_P (dC, dI) vwCl [cl_X10 h_this h_this_dayAt h_this_secondAt h_this_spans h_this_kept h_this_text h_this_row h_this_read h_this_many h_this_first h_this_lengths h_this_page i_this j_this, (h_this_spans, .inl (cI, 24, .inl f_this_spans)), (h_this_row, .inl (cJ, 16, .inr (.inl f_this_row)))] H → va_D A [cl_X10 h_this h_this_dayAt h_this_secondAt h_this_spans h_this_kept h_this_text h_this_row h_this_read h_this_many h_this_first h_this_lengths h_this_page i_this j_this, (h_this_spans, .inl (cI, 24, .inl f_this_spans)), (h_this_row, .inl (cJ, 16, .inr (.inl f_this_row)))] → va_S A s.heap H locs → W p l e (kR 8 201) s m args below meth c H locs 0 0 Q (F0 m 74 ls []) := by
    intro n_74
    induction n_74 with
    | zero =>
      intro v1 v2 v3 v4 v5 v6 v8 v9 i_this j_this f_this_row ls H locs h hl hP hD hS
      rw [fX10_often_l74_0] at h; cases h
    | succ n_74 ih_74 =>
      intro v1 v2 v3 v4 v5 v6 v8 v9 i_this j_this f_this_row ls H locs h hl hP hD hS
      rw [fX10_often_l74_s] at h
      refine lv_iload hx hb dX10_often_74 (lv_at hl 8 rfl) ?_
      refine lv_ldcw (v := (876216 : Int32)) hx hb hown (hts _ (kq q_1374 rfl)) dX10_often_76 ?_
      refine lv_icmp_ge (tgt := 141) hx hb dX10_often_79 (by decide) (fun c1 => ?_) (fun c1 => ?_)
      · have h := ite_t c1 h
        refine lv_aload_n hx hb dX10_often_141 rfl (lv_at hl 0 rfl) ?_
        refine lv_iconst (v := (0 : Int32)) hx hb dX10_often_142 (by decide) ?_
        refine va_put (D := (dC, dI)) (ci := 9) (v := .int (0 : Int32)) (ty := .int) (C := RX10) (T := TX10) (N := 29) hx hb hts inX10 tyX10 tyX10_ok nmX10 hown hK hP hD hS 0 rfl rfl 8 (by decide) (hts _ (kq q_994 rfl)) (fun _ h9 => h9) rfl (by decide +kernel) rfl rfl (Nat.le_of_ble_eq_true rfl) dX10_often_143 (fun H locs hP hD hS => ?_)
        have hP : va_P (dC, dI) vwCl [(h_this, .inr (9, [.ref h_this_dayAt, .ref h_this_secondAt, .ref h_this_spans, .ref h_this_kept, .int (i_this 4), .ref h_this_text, .int (i_this 6), .ref h_this_row, .int (0 : Int32), .int (i_this 9), .int (i_this 10), .int (i_this 11), .int (i_this 12), .int (i_this 13), .int (i_this 14), .int (i_this 15), .int (i_this 16), .int (i_this 17), .int (i_this 18), .ref h_this_read, .long (j_this 20), .ref h_this_many, .ref h_this_first, .ref h_this_lengths, .int (i_this 24), .long (j_this 25), .long (j_this 26), .ref h_this_page, .int (i_this 28)])), (h_this_spans, .inl (cI, 24, .inl f_this_spans)), (h_this_row, .inl (cJ, 16, .inr (.inl f_this_row)))] H := hP
        have hD : va_D A [(h_this, .inr (9, [.ref h_this_dayAt, .ref h_this_secondAt, .ref h_this_spans, .ref h_this_kept, .int (i_this 4), .ref h_this_text, .int (i_this 6), .ref h_this_row, .int (0 : Int32), .int (i_this 9), .int (i_this 10), .int (i_this 11), .int (i_this 12), .int (i_this 13), .int (i_this 14), .int (i_this 15), .int (i_this 16), .int (i_this 17), .int (i_this 18), .ref h_this_read, .long (j_this 20), .ref h_this_many, .ref h_this_first, .ref h_this_lengths, .int (i_this 24), .long (j_this 25), .long (j_this 26), .ref h_this_page, .int (i_this 28)])), (h_this_spans, .inl (cI, 24, .inl f_this_spans)), (h_this_row, .inl (cJ, 16, .inr (.inl f_this_row)))] := hD
        refine lv_aload_n hx hb dX10_often_146 rfl (lv_at hl 0 rfl) ?_
        refine lv_lload hx hb dX10_often_147 (lv_at hl 6 rfl) ?_
        have hP : va_P (dC, dI) vwCl [cl_X10 h_this h_this_dayAt h_this_secondAt h_this_spans h_this_kept h_this_text h_this_row h_this_read h_this_many h_this_first h_this_lengths h_this_page (upd i_this 8 (0 : Int32)) j_this, (h_this_spans, .inl (cI, 24, .inl f_this_spans)), (h_this_row, .inl (cJ, 16, .inr (.inl f_this_row)))] H := hP
        have hD : va_D A [cl_X10 h_this h_this_dayAt h_this_secondAt h_this_spans h_this_kept h_this_text h_this_row h_this_read h_this_many h_this_first h_this_lengths h_this_page (upd i_this 8 (0 : Int32)) j_this, (h_this_spans, .inl (cI, 24, .inl f_this_spans)), (h_this_row, .inl (cJ, 16, .inr (.inl f_this_row)))] := hD
        obtain ⟨i_this_2, f_this_row_3, hc4, h⟩ := bd2_at h
        refine kjV (kV (own := "DateSpansModel") (C := "DateSpansModel") (b := h_this) (As := [.long v6]) (rest := []) ⟨hx, hb, hml, hown, hts⟩ (kX10_tell l dC dI cI cJ cB h_this h_this_dayAt h_this_secondAt h_this_spans h_this_kept h_this_text h_this_row h_this_read h_this_many h_this_first h_this_lengths h_this_page N v6 (upd i_this 8 (0 : Int32)) j_this f_this_row i_this_2 f_this_row_3 hc4 _) (kgV (kq q_1221 rfl) (kq q_1223 rfl) (kq q_29 rfl) (kq q_66 rfl) (kq q_1224 rfl)) yd_X10_tell ⟨Nat.le_of_ble_eq_true rfl, Nat.le_of_ble_eq_true rfl⟩ hN hK hP hD [0, 2] rfl rfl (ci := 9) rfl rfl rfl rfl rfl hl.1 rfl (lv_room (Nat.le_of_ble_eq_true rfl)) dX10_often_149) hP hD hS hA [0, 2] rfl rfl (fun H locs hP hD hS => ?_)
        have hP : va_P (dC, dI) vwCl [cl_X10 h_this h_this_dayAt h_this_secondAt h_this_spans h_this_kept h_this_text h_this_row h_this_read h_this_many h_this_first h_this_lengths h_this_page i_this_2 j_this, (h_this_spans, .inl (cI, 24, .inl f_this_spans)), (h_this_row, .inl (cJ, 16, .inr (.inl f_this_row_3)))] H := hP
        have hD : va_D A [cl_X10 h_this h_this_dayAt h_this_secondAt h_this_spans h_this_kept h_this_text h_this_row h_this_read h_this_many h_this_first h_this_lengths h_this_page i_this_2 j_this, (h_this_spans, .inl (cI, 24, .inl f_this_spans)), (h_this_row, .inl (cJ, 16, .inr (.inl f_this_row_3)))] := hD
        refine lv_aload_n hx hb dX10_often_152 rfl (lv_at hl 0 rfl) ?_
        refine lv_iload hx hb dX10_often_153 (lv_at hl 7 rfl) ?_
        refine lv_i2l hx hb dX10_often_155 rfl ?_
        obtain ⟨i_this_5, f_this_row_6, hc7, h⟩ := bd2_at h
        refine kjV (kV (own := "DateSpansModel") (C := "DateSpansModel") (b := h_this) (As := [.long v8.toInt64]) (rest := []) ⟨hx, hb, hml, hown, hts⟩ (kX10_tell l dC dI cI cJ cB h_this h_this_dayAt h_this_secondAt h_this_spans h_this_kept h_this_text h_this_row h_this_read h_this_many h_this_first h_this_lengths h_this_page N v8.toInt64 i_this_2 j_this f_this_row_3 i_this_5 f_this_row_6 hc7 _) (kgV (kq q_1221 rfl) (kq q_1223 rfl) (kq q_29 rfl) (kq q_66 rfl) (kq q_1224 rfl)) yd_X10_tell ⟨Nat.le_of_ble_eq_true rfl, Nat.le_of_ble_eq_true rfl⟩ hN hK hP hD [0, 2] rfl rfl (ci := 9) rfl rfl rfl rfl rfl hl.1 rfl (lv_room (Nat.le_of_ble_eq_true rfl)) dX10_often_156) hP hD hS hA [0, 2] rfl rfl (fun H locs hP hD hS => ?_)
        have hP : va_P (dC, dI) vwCl [cl_X10 h_this h_this_dayAt h_this_secondAt h_this_spans h_this_kept h_this_text h_this_row h_this_read h_this_many h_this_first h_this_lengths h_this_page i_this_5 j_this, (h_this_spans, .inl (cI, 24, .inl f_this_spans)), (h_this_row, .inl (cJ, 16, .inr (.inl f_this_row_6)))] H := hP
        have hD : va_D A [cl_X10 h_this h_this_dayAt h_this_secondAt h_this_spans h_this_kept h_this_text h_this_row h_this_read h_this_many h_this_first h_this_lengths h_this_page i_this_5 j_this, (h_this_spans, .inl (cI, 24, .inl f_this_spans)), (h_this_row, .inl (cJ, 16, .inr (.inl f_this_row_6)))] := hD
        refine lv_iload hx hb dX10_often_159 (lv_at hl 5 rfl) ?_
        obtain ⟨rfl, rfl, rfl, rfl⟩ := pj4 h
        exact hEnd _ _ _ _ hP hS dX10_often_161 rfl
      have h := ite_f c1 h
      refine lv_aload_n hx hb dX10_often_82 rfl (lv_at hl 0 rfl) ?_
      refine lv_iload_n hx hb dX10_often_83 rfl (lv_at hl 1 rfl) ?_
      refine lv_iload_n hx hb dX10_often_84 rfl (lv_at hl 2 rfl) ?_
      refine lv_iload_n hx hb dX10_often_85 rfl (lv_at hl 3 rfl) ?_
      refine lv_iload hx hb dX10_often_86 (lv_at hl 4 rfl) ?_
      refine lv_iload hx hb dX10_often_88 (lv_at hl 8 rfl) ?_
      obtain ⟨r8, i_this_9, j_this_10, hc11, h⟩ := bd3_at h
      refine kjI (kV (own := "DateSpansModel") (C := "DateSpansModel") (b := h_this) (As := [.int v1, .int v2, .int v3, .int v4, .int v9]) (rest := []) ⟨hx, hb, hml, hown, hts⟩ (kX10_isUnlike l dC dI cI cJ cB h_this h_this_dayAt h_this_secondAt h_this_spans h_this_kept h_this_text h_this_row h_this_read h_this_many h_this_first h_this_lengths h_this_page N v1 v2 v3 v4 v9 i_this j_this f_this_spans r8 i_this_9 j_this_10 hc11 _) (kgV (kq q_1392 rfl) (kq q_1394 rfl) (kq q_45 rfl) (kq q_66 rfl) (kq q_1395 rfl)) yd_X10_isUnlike ⟨Nat.le_of_ble_eq_true rfl, Nat.le_of_ble_eq_true rfl⟩ hN hK hP hD [0, 1] rfl rfl (ci := 9) rfl rfl rfl rfl rfl hl.1 rfl (lv_room (Nat.le_of_ble_eq_true rfl)) dX10_often_90) hP hD hS hA [0, 1] rfl rfl (fun H locs hP hD hS => ?_)
      have hP : va_P (dC, dI) vwCl [cl_X10 h_this h_this_dayAt h_this_secondAt h_this_spans h_this_kept h_this_text h_this_row h_this_read h_this_many h_this_first h_this_lengths h_this_page i_this_9 j_this_10, (h_this_spans, .inl (cI, 24, .inl f_this_spans)), (h_this_row, .inl (cJ, 16, .inr (.inl f_this_row)))] H := hP
      have hD : va_D A [cl_X10 h_this h_this_dayAt h_this_secondAt h_this_spans h_this_kept h_this_text h_this_row h_this_read h_this_many h_this_first h_this_lengths h_this_page i_this_9 j_this_10, (h_this_spans, .inl (cI, 24, .inl f_this_spans)), (h_this_row, .inl (cJ, 16, .inr (.inl f_this_row)))] := hD
      refine lv_if_ne (tgt := 99) hx hb dX10_often_93 (by decide) (fun c12 => ?_) (fun c12 => ?_)
      · have h := ite_f c12 h
        obtain ⟨z13, ez13⟩ : ∃ y : Int32, y = (v5 + (1 : Int32)) := ⟨_, rfl⟩
        have h := nm_at ez13 h
        refine lv_iinc (v := z13) (lv' := [(5, .int z13), (0, .ref h_this), (1, .int v1), (2, .int v2), (3, .int v3), (4, .int v4), (6, .long v6), (8, .int v8), (9, .int v9)]) hx hb dX10_often_99 hl (k := 5) rfl (by rw [ez13]; rfl) (by decide) rfl (fun ls hl => ?_)
        refine lv_aload_n hx hb dX10_often_102 rfl (lv_at hl 1 rfl) ?_
        refine va_get (D := (dC, dI)) (ci := 9) (v := .long (j_this_10 25)) (C := RX10) (T := TX10) (N := 29) hx hb hts inX10 hown hK hP 0 rfl rfl 25 (by decide) (hts _ (kq q_1011 rfl)) (fun _ h9 => h9) rfl dX10_often_103 ?_
        refine lv_aload_n hx hb dX10_often_106 rfl (lv_at hl 1 rfl) ?_
        refine va_get (D := (dC, dI)) (ci := 9) (v := .long (j_this_10 26)) (C := RX10) (T := TX10) (N := 29) hx hb hts inX10 hown hK hP 0 rfl rfl 26 (by decide) (hts _ (kq q_1012 rfl)) (fun _ h9 => h9) rfl dX10_often_107 ?_
        refine lv_lsub hx hb dX10_often_110 ?_
        obtain ⟨r14, hc15, h⟩ := bd1_at h
        refine kjSL (kS0 (own := "DateSpansModel") (As := [.long ((j_this_10 25) - (j_this_10 26))]) (rest := []) ⟨hx, hb, hml, hown, hts⟩ (kX10_sizeOf l N ((j_this_10 25) - (j_this_10 26)) r14 hc15) (kgS (kq q_1360 rfl) (kq q_1361 rfl) (kq q_66 rfl) (kq q_1362 rfl)) yd_X10_sizeOf ⟨Nat.le_of_ble_eq_true rfl, Nat.le_of_ble_eq_true rfl⟩ rfl rfl hl.1 rfl (lv_room (Nat.le_of_ble_eq_true rfl)) dX10_often_111) ?_
        refine lv_lstore (lv' := [(10, .long r14), (5, .int z13), (0, .ref h_this), (1, .int v1), (2, .int v2), (3, .int v3), (4, .int v4), (6, .long v6), (8, .int v8), (9, .int v9)]) hx hb dX10_often_114 hl (by decide) rfl (fun ls hl => ?_)
        refine lv_lload hx hb dX10_often_116 (lv_at hl 0 rfl) ?_
        refine lv_lload hx hb dX10_often_118 (lv_at hl 7 rfl) ?_
        refine W.lcmp hx hb dX10_often_120 ?_
        refine lv_if_gt (tgt := 127) hx hb dX10_often_121 (by decide) (fun c16 => ?_) (fun c16 => ?_)
        · have h := ite_t c16 h
          refine lv_lload hx hb dX10_often_127 (lv_at hl 0 rfl) ?_
          refine lv_lstore (lv' := [(6, .long r14), (10, .long r14), (5, .int z13), (0, .ref h_this), (1, .int v1), (2, .int v2), (3, .int v3), (4, .int v4), (8, .int v8), (9, .int v9)]) hx hb dX10_often_129 hl (by decide) rfl (fun ls hl => ?_)
          refine lv_iload hx hb dX10_often_131 (lv_at hl 9 rfl) ?_
          refine lv_istore (lv' := [(8, .int v9), (6, .long r14), (10, .long r14), (5, .int z13), (0, .ref h_this), (1, .int v1), (2, .int v2), (3, .int v3), (4, .int v4), (9, .int v9)]) hx hb dX10_often_133 hl (by decide) rfl (fun ls hl => ?_)
          obtain ⟨z17, ez17⟩ : ∃ y : Int32, y = (v9 + (1 : Int32)) := ⟨_, rfl⟩
          have h := nm_at ez17 h
          refine lv_iinc (v := z17) (lv' := [(9, .int z17), (8, .int v9), (6, .long r14), (10, .long r14), (5, .int z13), (0, .ref h_this), (1, .int v1), (2, .int v2), (3, .int v3), (4, .int v4)]) hx hb dX10_often_135 hl (k := 9) rfl (by rw [ez17]; rfl) (by decide) rfl (fun ls hl => ?_)
          refine lv_goto (tgt := 74) hx hb dX10_often_138 (by decide) ?_
          exact ih_74 _ _ _ _ _ _ _ _ _ _ _ _ _ _ h (lv_sub hl [5, 6, 7, 8, 9, 4, 2, 1, 0] rfl) hP hD hS
        have h := ite_f c16 h
        refine lv_goto (tgt := 135) hx hb dX10_often_124 (by decide) ?_
        obtain ⟨z18, ez18⟩ : ∃ y : Int32, y = (v9 + (1 : Int32)) := ⟨_, rfl⟩
        have h := nm_at ez18 h
        refine lv_iinc (v := z18) (lv' := [(9, .int z18), (10, .long r14), (5, .int z13), (0, .ref h_this), (1, .int v1), (2, .int v2), (3, .int v3), (4, .int v4), (6, .long v6), (8, .int v8)]) hx hb dX10_often_135 hl (k := 9) rfl (by rw [ez18]; rfl) (by decide) rfl (fun ls hl => ?_)
        refine lv_goto (tgt := 74) hx hb dX10_often_138 (by decide) ?_
        exact ih_74 _ _ _ _ _ _ _ _ _ _ _ _ _ _ h (lv_sub hl [3, 4, 5, 6, 7, 2, 8, 9, 0] rfl) hP hD hS
      have h := ite_t c12 h
      refine lv_goto (tgt := 135) hx hb dX10_often_96 (by decide) ?_
      obtain ⟨z19, ez19⟩ : ∃ y : Int32, y = (v9 + (1 : Int32)) := ⟨_, rfl⟩
      have h := nm_at ez19 h
      refine lv_iinc (v := z19) (lv' := [(9, .int z19), (0, .ref h_this), (1, .int v1), (2, .int v2), (3, .int v3), (4, .int v4), (5, .int v5), (6, .long v6), (8, .int v8)]) hx hb dX10_often_135 hl (k := 8) rfl (by rw [ez19]; rfl) (by decide) rfl (fun ls hl => ?_)
      refine lv_goto (tgt := 74) hx hb dX10_often_138 (by decide) ?_
      exact ih_74 _ _ _ _ _ _ _ _ _ _ _ _ _ _ h (lv_sub hl [1, 2, 3, 4, 5, 6, 7, 8, 0] rfl) hP hD hS
  have h := hf
  unfold fX10_often at h
  refine lv_aload_n hx hb dX10_often_0 rfl (lv_at hl 0 rfl) ?_
  refine lv_iconst (v := (0 : Int32)) hx hb dX10_often_1 (by decide) ?_
  refine va_put (D := (dC, dI)) (ci := 9) (v := .int (0 : Int32)) (ty := .int) (C := RX10) (T := TX10) (N := 29) hx hb hts inX10 tyX10 tyX10_ok nmX10 hown hK hP hD hS 0 rfl rfl 9 (by decide) (hts _ (kq q_995 rfl)) (fun _ h9 => h9) rfl (by decide +kernel) rfl rfl (Nat.le_of_ble_eq_true rfl) dX10_often_2 (fun H locs hP hD hS => ?_)
  have hP : va_P (dC, dI) vwCl [(h_this, .inr (9, [.ref h_this_dayAt, .ref h_this_secondAt, .ref h_this_spans, .ref h_this_kept, .int (i_this 4), .ref h_this_text, .int (i_this 6), .ref h_this_row, .int (i_this 8), .int (0 : Int32), .int (i_this 10), .int (i_this 11), .int (i_this 12), .int (i_this 13), .int (i_this 14), .int (i_this 15), .int (i_this 16), .int (i_this 17), .int (i_this 18), .ref h_this_read, .long (j_this 20), .ref h_this_many, .ref h_this_first, .ref h_this_lengths, .int (i_this 24), .long (j_this 25), .long (j_this 26), .ref h_this_page, .int (i_this 28)])), (h_this_spans, .inl (cI, 24, .inl f_this_spans)), (h_this_row, .inl (cJ, 16, .inr (.inl f_this_row)))] H := hP
  have hD : va_D A [(h_this, .inr (9, [.ref h_this_dayAt, .ref h_this_secondAt, .ref h_this_spans, .ref h_this_kept, .int (i_this 4), .ref h_this_text, .int (i_this 6), .ref h_this_row, .int (i_this 8), .int (0 : Int32), .int (i_this 10), .int (i_this 11), .int (i_this 12), .int (i_this 13), .int (i_this 14), .int (i_this 15), .int (i_this 16), .int (i_this 17), .int (i_this 18), .ref h_this_read, .long (j_this 20), .ref h_this_many, .ref h_this_first, .ref h_this_lengths, .int (i_this 24), .long (j_this 25), .long (j_this 26), .ref h_this_page, .int (i_this 28)])), (h_this_spans, .inl (cI, 24, .inl f_this_spans)), (h_this_row, .inl (cJ, 16, .inr (.inl f_this_row)))] := hD
  refine lv_iload_n hx hb dX10_often_5 rfl (lv_at hl 1 rfl) ?_
  refine lv_i2l hx hb dX10_often_6 rfl ?_
  refine lv_lconst (v := (0 : Int64)) hx hb dX10_often_7 (by decide) ?_
  refine lv_ldc2 (v := (3 : Int64)) hx hb hown (hts _ (kq q_1278 rfl)) dX10_often_8 ?_
  have hP : va_P (dC, dI) vwCl [cl_X10 h_this h_this_dayAt h_this_secondAt h_this_spans h_this_kept h_this_text h_this_row h_this_read h_this_many h_this_first h_this_lengths h_this_page (upd i_this 9 (0 : Int32)) j_this, (h_this_spans, .inl (cI, 24, .inl f_this_spans)), (h_this_row, .inl (cJ, 16, .inr (.inl f_this_row)))] H := hP
  have hD : va_D A [cl_X10 h_this h_this_dayAt h_this_secondAt h_this_spans h_this_kept h_this_text h_this_row h_this_read h_this_many h_this_first h_this_lengths h_this_page (upd i_this 9 (0 : Int32)) j_this, (h_this_spans, .inl (cI, 24, .inl f_this_spans)), (h_this_row, .inl (cJ, 16, .inr (.inl f_this_row)))] := hD
  obtain ⟨r20, hc21, h⟩ := bd1_at h
  refine kjSI (kS0 (own := "DateSpansModel") (As := [.long p1.toInt64, .long (0 : Int64), .long (3 : Int64)]) (rest := []) ⟨hx, hb, hml, hown, hts⟩ (kX10_in l N p1.toInt64 (0 : Int64) (3 : Int64) r20 hc21) (kgS (kq q_1086 rfl) (kq q_1087 rfl) (kq q_66 rfl) (kq q_1088 rfl)) yd_X10_in ⟨Nat.le_of_ble_eq_true rfl, Nat.le_of_ble_eq_true rfl⟩ rfl rfl hl.1 rfl (lv_room (Nat.le_of_ble_eq_true rfl)) dX10_often_11) ?_
  refine lv_if_eq (tgt := 39) hx hb dX10_often_14 (by decide) (fun c22 => ?_) (fun c22 => ?_)
  · have h := ite_t c22 h
    refine lv_iconst (v := (-1 : Int32)) hx hb dX10_often_39 (by decide) ?_
    obtain ⟨rfl, rfl, rfl, rfl⟩ := pj4 h
    exact hEnd _ _ _ _ hP hS dX10_often_40 rfl
  have h := ite_f c22 h
  refine lv_iload_n hx hb dX10_often_17 rfl (lv_at hl 2 rfl) ?_
  obtain ⟨r23, hc24, h⟩ := bd1_at h
  refine kjSI (kS0 (own := "DateSpansModel") (As := [.int p2]) (rest := []) ⟨hx, hb, hml, hown, hts⟩ (kX10_isSlot l N p2 r23 hc24) (kgS (kq q_1123 rfl) (kq q_1124 rfl) (kq q_66 rfl) (kq q_1125 rfl)) yd_X10_isSlot ⟨Nat.le_of_ble_eq_true rfl, Nat.le_of_ble_eq_true rfl⟩ rfl rfl hl.1 rfl (lv_room (Nat.le_of_ble_eq_true rfl)) dX10_often_18) ?_
  refine lv_if_eq (tgt := 39) hx hb dX10_often_21 (by decide) (fun c25 => ?_) (fun c25 => ?_)
  · have h := ite_t c25 h
    refine lv_iconst (v := (-1 : Int32)) hx hb dX10_often_39 (by decide) ?_
    obtain ⟨rfl, rfl, rfl, rfl⟩ := pj4 h
    exact hEnd _ _ _ _ hP hS dX10_often_40 rfl
  have h := ite_f c25 h
  refine lv_iload_n hx hb dX10_often_24 rfl (lv_at hl 3 rfl) ?_
  obtain ⟨r26, hc27, h⟩ := bd1_at h
  refine kjSI (kS0 (own := "DateSpansModel") (As := [.int p3]) (rest := []) ⟨hx, hb, hml, hown, hts⟩ (kX10_isSlot l N p3 r26 hc27) (kgS (kq q_1123 rfl) (kq q_1124 rfl) (kq q_66 rfl) (kq q_1125 rfl)) yd_X10_isSlot ⟨Nat.le_of_ble_eq_true rfl, Nat.le_of_ble_eq_true rfl⟩ rfl rfl hl.1 rfl (lv_room (Nat.le_of_ble_eq_true rfl)) dX10_often_25) ?_
  refine lv_if_eq (tgt := 39) hx hb dX10_often_28 (by decide) (fun c28 => ?_) (fun c28 => ?_)
  · have h := ite_t c28 h
    refine lv_iconst (v := (-1 : Int32)) hx hb dX10_often_39 (by decide) ?_
    obtain ⟨rfl, rfl, rfl, rfl⟩ := pj4 h
    exact hEnd _ _ _ _ hP hS dX10_often_40 rfl
  have h := ite_f c28 h
  refine lv_iload hx hb dX10_often_31 (lv_at hl 4 rfl) ?_
  obtain ⟨r29, hc30, h⟩ := bd1_at h
  refine kjSI (kS0 (own := "DateSpansModel") (As := [.int p4]) (rest := []) ⟨hx, hb, hml, hown, hts⟩ (kX10_isLaw l N p4 r29 hc30) (kgS (kq q_1275 rfl) (kq q_1276 rfl) (kq q_66 rfl) (kq q_1277 rfl)) yd_X10_isLaw ⟨Nat.le_of_ble_eq_true rfl, Nat.le_of_ble_eq_true rfl⟩ rfl rfl hl.1 rfl (lv_room (Nat.le_of_ble_eq_true rfl)) dX10_often_33) ?_
  refine lv_if_ne (tgt := 41) hx hb dX10_often_36 (by decide) (fun c31 => ?_) (fun c31 => ?_)
  · have h := ite_f c31 h
    refine lv_iload_n hx hb dX10_often_41 rfl (lv_at hl 1 rfl) ?_
    refine lv_iconst (v := (2 : Int32)) hx hb dX10_often_42 (by decide) ?_
    refine lv_icmp_ne (tgt := 60) hx hb dX10_often_43 (by decide) (fun c32 => ?_) (fun c32 => ?_)
    · have h := ite_f c32 h
      refine lv_iconst (v := (0 : Int32)) hx hb dX10_often_60 (by decide) ?_
      refine lv_istore (lv' := [(5, .int (0 : Int32)), (0, .ref h_this), (1, .int p1), (2, .int p2), (3, .int p3), (4, .int p4)]) hx hb dX10_often_61 hl (by decide) rfl (fun ls hl => ?_)
      refine lv_lconst (v := (0 : Int64)) hx hb dX10_often_63 (by decide) ?_
      refine lv_lstore (lv' := [(6, .long (0 : Int64)), (5, .int (0 : Int32)), (0, .ref h_this), (1, .int p1), (2, .int p2), (3, .int p3), (4, .int p4)]) hx hb dX10_often_64 hl (by decide) rfl (fun ls hl => ?_)
      refine lv_iconst (v := (-1 : Int32)) hx hb dX10_often_66 (by decide) ?_
      refine lv_istore (lv' := [(8, .int (-1 : Int32)), (6, .long (0 : Int64)), (5, .int (0 : Int32)), (0, .ref h_this), (1, .int p1), (2, .int p2), (3, .int p3), (4, .int p4)]) hx hb dX10_often_67 hl (by decide) rfl (fun ls hl => ?_)
      refine lv_ldcw (v := (730119 : Int32)) hx hb hown (hts _ (kq q_1373 rfl)) dX10_often_69 ?_
      refine lv_istore (lv' := [(9, .int (730119 : Int32)), (8, .int (-1 : Int32)), (6, .long (0 : Int64)), (5, .int (0 : Int32)), (0, .ref h_this), (1, .int p1), (2, .int p2), (3, .int p3), (4, .int p4)]) hx hb dX10_often_72 hl (by decide) rfl (fun ls hl => ?_)
      exact LP_74 N _ _ _ _ _ _ _ _ _ _ _ _ _ _ h (lv_sub hl [4, 5, 6, 7, 8, 3, 2, 1, 0] rfl) hP hD hS
    have h := ite_t c32 h
    refine lv_aload_n hx hb dX10_often_46 rfl (lv_at hl 0 rfl) ?_
    refine lv_iload_n hx hb dX10_often_47 rfl (lv_at hl 2 rfl) ?_
    refine lv_ldc2 (v := (2 : Int64)) hx hb hown (hts _ (kq q_1248 rfl)) dX10_often_48 ?_
    obtain ⟨r33, hc34, h⟩ := bd1_at h
    refine kjI (kV (own := "DateSpansModel") (C := "DateSpansModel") (b := h_this) (As := [.int p2, .long (2 : Int64)]) (rest := []) ⟨hx, hb, hml, hown, hts⟩ (kX10_isBeyond l dC dI cI cJ cB h_this h_this_dayAt h_this_secondAt h_this_spans h_this_kept h_this_text h_this_row h_this_read h_this_many h_this_first h_this_lengths h_this_page N p2 (2 : Int64) (upd i_this 9 (0 : Int32)) j_this f_this_spans r33 hc34 _) (kgV (kq q_1387 rfl) (kq q_1389 rfl) (kq q_44 rfl) (kq q_66 rfl) (kq q_1390 rfl)) yd_X10_isBeyond ⟨Nat.le_of_ble_eq_true rfl, Nat.le_of_ble_eq_true rfl⟩ hN hK hP hD [0, 1] rfl rfl (ci := 9) rfl rfl rfl rfl rfl hl.1 rfl (lv_room (Nat.le_of_ble_eq_true rfl)) dX10_often_51) hP hD hS hA [0, 1] rfl rfl (fun H locs hP hD hS => ?_)
    have hP : va_P (dC, dI) vwCl [cl_X10 h_this h_this_dayAt h_this_secondAt h_this_spans h_this_kept h_this_text h_this_row h_this_read h_this_many h_this_first h_this_lengths h_this_page (upd i_this 9 (0 : Int32)) j_this, (h_this_spans, .inl (cI, 24, .inl f_this_spans)), (h_this_row, .inl (cJ, 16, .inr (.inl f_this_row)))] H := hP
    have hD : va_D A [cl_X10 h_this h_this_dayAt h_this_secondAt h_this_spans h_this_kept h_this_text h_this_row h_this_read h_this_many h_this_first h_this_lengths h_this_page (upd i_this 9 (0 : Int32)) j_this, (h_this_spans, .inl (cI, 24, .inl f_this_spans)), (h_this_row, .inl (cJ, 16, .inr (.inl f_this_row)))] := hD
    refine lv_if_eq (tgt := 60) hx hb dX10_often_54 (by decide) (fun c35 => ?_) (fun c35 => ?_)
    · have h := ite_t c35 h
      refine lv_iconst (v := (0 : Int32)) hx hb dX10_often_60 (by decide) ?_
      refine lv_istore (lv' := [(5, .int (0 : Int32)), (0, .ref h_this), (1, .int p1), (2, .int p2), (3, .int p3), (4, .int p4)]) hx hb dX10_often_61 hl (by decide) rfl (fun ls hl => ?_)
      refine lv_lconst (v := (0 : Int64)) hx hb dX10_often_63 (by decide) ?_
      refine lv_lstore (lv' := [(6, .long (0 : Int64)), (5, .int (0 : Int32)), (0, .ref h_this), (1, .int p1), (2, .int p2), (3, .int p3), (4, .int p4)]) hx hb dX10_often_64 hl (by decide) rfl (fun ls hl => ?_)
      refine lv_iconst (v := (-1 : Int32)) hx hb dX10_often_66 (by decide) ?_
      refine lv_istore (lv' := [(8, .int (-1 : Int32)), (6, .long (0 : Int64)), (5, .int (0 : Int32)), (0, .ref h_this), (1, .int p1), (2, .int p2), (3, .int p3), (4, .int p4)]) hx hb dX10_often_67 hl (by decide) rfl (fun ls hl => ?_)
      refine lv_ldcw (v := (730119 : Int32)) hx hb hown (hts _ (kq q_1373 rfl)) dX10_often_69 ?_
      refine lv_istore (lv' := [(9, .int (730119 : Int32)), (8, .int (-1 : Int32)), (6, .long (0 : Int64)), (5, .int (0 : Int32)), (0, .ref h_this), (1, .int p1), (2, .int p2), (3, .int p3), (4, .int p4)]) hx hb dX10_often_72 hl (by decide) rfl (fun ls hl => ?_)
      exact LP_74 N _ _ _ _ _ _ _ _ _ _ _ _ _ _ h (lv_sub hl [4, 5, 6, 7, 8, 3, 2, 1, 0] rfl) hP hD hS
    have h := ite_f c35 h
    refine lv_bipush (v := (-9 : Int32)) hx hb dX10_often_57 (by decide) ?_
    obtain ⟨rfl, rfl, rfl, rfl⟩ := pj4 h
    exact hEnd _ _ _ _ hP hS dX10_often_59 rfl
  have h := ite_t c31 h
  refine lv_iconst (v := (-1 : Int32)) hx hb dX10_often_39 (by decide) ?_
  obtain ⟨rfl, rfl, rfl, rfl⟩ := pj4 h
  exact hEnd _ _ _ _ hP hS dX10_often_40 rfl
