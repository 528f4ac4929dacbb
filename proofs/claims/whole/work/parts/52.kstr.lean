noncomputable def fX10_readsPart_j147 (N : Nat) (j_this : Nat → Int64) (f_this_text : Nat → Int32) (v2 : Int32) (v3 : Int32) (v5 : Int32) (i_this : Nat → Int32) (f_this_read : Nat → Int32) : Option (Int32 × (Nat → Int32) × (Nat → Int32)) := (if (i_this 18) = (-1 : Int32) then (bd1 (fX10_partOf N v5) fun r2 => (gi r2 3 (if v2 = (0 : Int32) then (bd1 (fX10_counts N v5) fun r6 => (gi r2 3 (some (v5, (upd i_this 17 ((i_this 17) + (1 : Int32))), (upd f_this_read r2.toNatClampNeg ((f_this_read r2.toNatClampNeg) + (v3 * r6))))))) else (bd1 (fX10_counts N v5) fun r9 => (gi r2 3 (some (v5, (upd i_this 17 ((i_this 17) + (1 : Int32))), (upd f_this_read r2.toNatClampNeg ((f_this_read r2.toNatClampNeg) + ((-v3) * r9)))))))))) else (some ((7 : Int32), i_this, f_this_read)))
noncomputable def fX10_readsPart_j132 (N : Nat) (j_this : Nat → Int64) (f_this_text : Nat → Int32) (v2 : Int32) (v3 : Int32) (v5 : Int32) (i_this : Nat → Int32) (f_this_read : Nat → Int32) : Option (Int32 × (Nat → Int32) × (Nat → Int32)) := (if v5 = (7 : Int32) then (bd1 (fX10_fault N (i_this 17) i_this j_this) fun i_this_13 => (fX10_readsPart_j147 N j_this f_this_text v2 v3 v5 i_this_13 f_this_read)) else (fX10_readsPart_j147 N j_this f_this_text v2 v3 v5 i_this f_this_read))
noncomputable def fX10_readsPart_l107 (N : Nat) (j_this : Nat → Int64) (f_this_text : Nat → Int32) (n : Nat) : Int32 → Int32 → Int32 → (Nat → Int32) → (Nat → Int32) → Option (Int32 × (Nat → Int32) × (Nat → Int32)) := Nat.rec (motive := fun _ => Int32 → Int32 → Int32 → (Nat → Int32) → (Nat → Int32) → Option (Int32 × (Nat → Int32) × (Nat → Int32))) (fun _ _ _ _ _ => none) (fun _ K_107 v2 v3 v5 i_this f_this_read => (if (7 : Int32) ≤ v5 then (fX10_readsPart_j132 N j_this f_this_text v2 v3 v5 i_this f_this_read) else (bd1 (fX10_sees N i_this j_this f_this_text) fun r16 => (bd1 (fX10_letter N v5) fun r18 => (if r16 = r18 then (fX10_readsPart_j132 N j_this f_this_text v2 v3 v5 i_this f_this_read) else (nm (v5 + (1 : Int32)) fun z21 => (K_107 v2 v3 z21 i_this f_this_read))))))) n
theorem fX10_readsPart_l107_s (N : Nat) (j_this : Nat → Int64) (f_this_text : Nat → Int32) (n : Nat) (v2 : Int32) (v3 : Int32) (v5 : Int32) (i_this : Nat → Int32) (f_this_read : Nat → Int32) : fX10_readsPart_l107 N j_this f_this_text (n + 1) v2 v3 v5 i_this f_this_read = (if (7 : Int32) ≤ v5 then (fX10_readsPart_j132 N j_this f_this_text v2 v3 v5 i_this f_this_read) else (bd1 (fX10_sees N i_this j_this f_this_text) fun r16 => (bd1 (fX10_letter N v5) fun r18 => (if r16 = r18 then (fX10_readsPart_j132 N j_this f_this_text v2 v3 v5 i_this f_this_read) else (nm (v5 + (1 : Int32)) fun z21 => ((fX10_readsPart_l107 N j_this f_this_text n) v2 v3 z21 i_this f_this_read)))))) := rfl
theorem fX10_readsPart_l107_0 (N : Nat) (j_this : Nat → Int64) (f_this_text : Nat → Int32) (v2 : Int32) (v3 : Int32) (v5 : Int32) (i_this : Nat → Int32) (f_this_read : Nat → Int32) : fX10_readsPart_l107 N j_this f_this_text 0 v2 v3 v5 i_this f_this_read = none := rfl
noncomputable def fX10_readsPart_l40 (N : Nat) (j_this : Nat → Int64) (f_this_text : Nat → Int32) (n : Nat) : Int32 → Int32 → Int32 → Int32 → (Nat → Int32) → (Nat → Int32) → Option (Int32 × (Nat → Int32) × (Nat → Int32)) := Nat.rec (motive := fun _ => Int32 → Int32 → Int32 → Int32 → (Nat → Int32) → (Nat → Int32) → Option (Int32 × (Nat → Int32) × (Nat → Int32))) (fun _ _ _ _ _ _ => none) (fun _ K_40 v1 v2 v3 v4 i_this f_this_read => (if (i_this 18) = (-1 : Int32) then (if v3 ≤ (0 : Int32) then (fX10_readsPart_l107 N j_this f_this_text N v2 v3 v1 i_this f_this_read) else (if (5 : Int32) ≤ v4 then (fX10_readsPart_l107 N j_this f_this_text N v2 v3 v1 i_this f_this_read) else (bd1 (fX10_sees N i_this j_this f_this_text) fun r25 => (bd1 (fX10_in N r25.toInt64 (48 : Int64) (57 : Int64)) fun r27 => (if r27 = (0 : Int32) then (fX10_readsPart_l107 N j_this f_this_text N v2 v3 v1 i_this f_this_read) else (bd1 (fX10_sees N i_this j_this f_this_text) fun r30 => (nm ((((10 : Int32) * v3) + r30) - (48 : Int32)) fun z32 => (nm (v4 + (1 : Int32)) fun z33 => (K_40 v1 v2 z32 z33 (upd i_this 17 ((i_this 17) + (1 : Int32))) f_this_read))))))))) else (fX10_readsPart_l107 N j_this f_this_text N v2 v3 v1 i_this f_this_read))) n
theorem fX10_readsPart_l40_s (N : Nat) (j_this : Nat → Int64) (f_this_text : Nat → Int32) (n : Nat) (v1 : Int32) (v2 : Int32) (v3 : Int32) (v4 : Int32) (i_this : Nat → Int32) (f_this_read : Nat → Int32) : fX10_readsPart_l40 N j_this f_this_text (n + 1) v1 v2 v3 v4 i_this f_this_read = (if (i_this 18) = (-1 : Int32) then (if v3 ≤ (0 : Int32) then (fX10_readsPart_l107 N j_this f_this_text N v2 v3 v1 i_this f_this_read) else (if (5 : Int32) ≤ v4 then (fX10_readsPart_l107 N j_this f_this_text N v2 v3 v1 i_this f_this_read) else (bd1 (fX10_sees N i_this j_this f_this_text) fun r25 => (bd1 (fX10_in N r25.toInt64 (48 : Int64) (57 : Int64)) fun r27 => (if r27 = (0 : Int32) then (fX10_readsPart_l107 N j_this f_this_text N v2 v3 v1 i_this f_this_read) else (bd1 (fX10_sees N i_this j_this f_this_text) fun r30 => (nm ((((10 : Int32) * v3) + r30) - (48 : Int32)) fun z32 => (nm (v4 + (1 : Int32)) fun z33 => ((fX10_readsPart_l40 N j_this f_this_text n) v1 v2 z32 z33 (upd i_this 17 ((i_this 17) + (1 : Int32))) f_this_read))))))))) else (fX10_readsPart_l107 N j_this f_this_text N v2 v3 v1 i_this f_this_read)) := rfl
theorem fX10_readsPart_l40_0 (N : Nat) (j_this : Nat → Int64) (f_this_text : Nat → Int32) (v1 : Int32) (v2 : Int32) (v3 : Int32) (v4 : Int32) (i_this : Nat → Int32) (f_this_read : Nat → Int32) : fX10_readsPart_l40 N j_this f_this_text 0 v1 v2 v3 v4 i_this f_this_read = none := rfl
noncomputable def fX10_readsPart_j14 (N : Nat) (j_this : Nat → Int64) (f_this_text : Nat → Int32) (v1 : Int32) (t0 : Int32) (i_this : Nat → Int32) (f_this_read : Nat → Int32) : Option (Int32 × (Nat → Int32) × (Nat → Int32)) := (if t0 = (0 : Int32) then (bd2 (fX10_digit N (0 : Int32) (9 : Int32) i_this j_this f_this_text) fun r35 i_this_36 => (fX10_readsPart_l40 N j_this f_this_text N v1 t0 r35 (1 : Int32) i_this_36 f_this_read)) else (bd2 (fX10_digit N (0 : Int32) (9 : Int32) (upd i_this 17 ((i_this 17) + (1 : Int32))) j_this f_this_text) fun r38 i_this_39 => (fX10_readsPart_l40 N j_this f_this_text N v1 t0 r38 (1 : Int32) i_this_39 f_this_read)))
noncomputable def fX10_readsPart (N : Nat) (p1 : Int32) (i_this : Nat → Int32) (j_this : Nat → Int64) (f_this_text : Nat → Int32) (f_this_read : Nat → Int32) : Option (Int32 × (Nat → Int32) × (Nat → Int32)) := (bd1 (fX10_sees N i_this j_this f_this_text) fun r41 => (if r41 = (45 : Int32) then (fX10_readsPart_j14 N j_this f_this_text p1 (1 : Int32) i_this f_this_read) else (fX10_readsPart_j14 N j_this f_this_text p1 (0 : Int32) i_this f_this_read)))
set_option maxHeartbeats 4000000 in
set_option maxRecDepth 100000 in
theorem kX10_readsPart (l : Launch) (aK aV : Nat) (dC : Nat → ClassId) (dI : Nat → Nat → Nat) (cI cJ cB : ClassId) (h_this h_this_dayAt h_this_secondAt h_this_spans h_this_kept h_this_text h_this_row h_this_read h_this_many h_this_first h_this_lengths h_this_page : Nat) (N : Nat) (p1 : Int32) (i_this : Nat → Int32) (j_this : Nat → Int64) (f_this_text : Nat → Int32) (f_this_read : Nat → Int32) (r : Int32) (o_i_this : Nat → Int32) (o_f_this_read : Nat → Int32) (hf : fX10_readsPart N p1 i_this j_this f_this_text f_this_read = some (r, o_i_this, o_f_this_read)) : MIs l yX10_readsPart (kws yX10_readsPart cX10_readsPart 6 (some .int)) (kR 5 105) aK aV (dC, dI) (kT cI cJ cB) [.ref h_this, .int p1] [cl_X10 h_this h_this_dayAt h_this_secondAt h_this_spans h_this_kept h_this_text h_this_row h_this_read h_this_many h_this_first h_this_lengths h_this_page i_this j_this, (h_this_text, .inl (cB, 100, .inl f_this_text)), (h_this_read, .inl (cI, 3, .inl f_this_read))] [cl_X10 h_this h_this_dayAt h_this_secondAt h_this_spans h_this_kept h_this_text h_this_row h_this_read h_this_many h_this_first h_this_lengths h_this_page o_i_this j_this, (h_this_text, .inl (cB, 100, .inl f_this_text)), (h_this_read, .inl (cI, 3, .inl o_f_this_read))] r := by
  refine MIs.of (cc := cX10_readsPart) (maxL := 6) (by decide) (Nat.le_of_ble_eq_true rfl) (fun p e s m args below meth c A Q ls KC hN hK hP hD hA hG hl hEnd => ?_)
  obtain ⟨hx, hb, hml, hown, hts⟩ := KC
  have hown : s.vm.findClass "DateSpansModel" = some m.cls := hown
  have hl : lv_has ls 6 [(0, .ref h_this), (1, .int p1)] := hl
  have hS : va_S A s.heap s.heap [] := va_S.rf
  have JN_147 : ∀ (v2 : Int32) (v3 : Int32) (v5 : Int32) (i_this : Nat → Int32) (f_this_read : Nat → Int32) (ls : Array Slot) (H : Heap) (locs : List Loc), (fX10_readsPart_j147 N j_this f_this_text) v2 v3 v5 i_this f_this_read = some (r, o_i_this, o_f_this_read) → lv_has ls 6 [(0, .ref h_this), (2, .int v2), (3, .int v3), (5, .int v5)] → va_P (dC, dI) vwCl [cl_X10 h_this h_this_dayAt h_this_secondAt h_this_spans h_this_kept h_this_text h_this_row h_this_read h_this_many h_this_first h_this_lengths h_this_page i_this j_this, (h_this_text, .inl (cB, 100, .inl f_this_text)), (h_this_read, .inl (cI, 3, .inl f_this_read))] H → va_D A [cl_X10 h_this h_this_dayAt h_this_secondAt h_this_spans h_this_kept h_this_text h_this_row h_this_read h_this_many h_this_first h_this_lengths h_this_page i_this j_this, (h_this_text, .inl (cB, 100, .inl f_this_text)), (h_this_read, .inl (cI, 3, .inl f_this_read))] → va_S A s.heap H locs → W p l e (kR 5 105) s m args below meth c H locs 0 0 Q (F0 m 147 ls []) := by
    intro v2 v3 v5 i_this f_this_read ls H locs h hl hP hD hS
    unfold fX10_readsPart_j147 at h
    refine lv_aload_n hx hb dX10_readsPart_147 rfl (lv_at hl 0 rfl) ?_
    refine va_get (D := (dC, dI)) (ci := 9) (v := .int (i_this 18)) (C := RX10) (T := TX10) (N := 29) hx hb hts inX10 hown hK hP 0 rfl rfl 18 (by decide) (hts _ (kq q_1004 rfl)) (fun _ h9 => h9) rfl dX10_readsPart_148 ?_
    refine lv_iconst (v := (-1 : Int32)) hx hb dX10_readsPart_151 (by decide) ?_
    refine lv_icmp_eq (tgt := 158) hx hb dX10_readsPart_152 (by decide) (fun c1 => ?_) (fun c1 => ?_)
    · have h := ite_t c1 h
      refine lv_aload_n hx hb dX10_readsPart_158 rfl (lv_at hl 0 rfl) ?_
      refine lv_dup hx hb dX10_readsPart_159 rfl ?_
      refine va_get (D := (dC, dI)) (ci := 9) (v := .int (i_this 17)) (C := RX10) (T := TX10) (N := 29) hx hb hts inX10 hown hK hP 0 rfl rfl 17 (by decide) (hts _ (kq q_1003 rfl)) (fun _ h9 => h9) rfl dX10_readsPart_160 ?_
      refine lv_iconst (v := (1 : Int32)) hx hb dX10_readsPart_163 (by decide) ?_
      refine lv_iadd hx hb dX10_readsPart_164 ?_
      refine va_put (D := (dC, dI)) (ci := 9) (v := .int ((i_this 17) + (1 : Int32))) (ty := .int) (C := RX10) (T := TX10) (N := 29) hx hb hts inX10 tyX10 tyX10_ok nmX10 hown hK hP hD hS 0 rfl rfl 17 (by decide) (hts _ (kq q_1003 rfl)) (fun _ h9 => h9) rfl (by decide +kernel) rfl rfl (Nat.le_of_ble_eq_true rfl) dX10_readsPart_165 (fun H locs hP hD hS => ?_)
      have hP : va_P (dC, dI) vwCl [(h_this, .inr (9, [.ref h_this_dayAt, .ref h_this_secondAt, .ref h_this_spans, .ref h_this_kept, .int (i_this 4), .ref h_this_text, .int (i_this 6), .ref h_this_row, .int (i_this 8), .int (i_this 9), .int (i_this 10), .int (i_this 11), .int (i_this 12), .int (i_this 13), .int (i_this 14), .int (i_this 15), .int (i_this 16), .int ((i_this 17) + (1 : Int32)), .int (i_this 18), .ref h_this_read, .long (j_this 20), .ref h_this_many, .ref h_this_first, .ref h_this_lengths, .int (i_this 24), .long (j_this 25), .long (j_this 26), .ref h_this_page, .int (i_this 28)])), (h_this_text, .inl (cB, 100, .inl f_this_text)), (h_this_read, .inl (cI, 3, .inl f_this_read))] H := hP
      have hD : va_D A [(h_this, .inr (9, [.ref h_this_dayAt, .ref h_this_secondAt, .ref h_this_spans, .ref h_this_kept, .int (i_this 4), .ref h_this_text, .int (i_this 6), .ref h_this_row, .int (i_this 8), .int (i_this 9), .int (i_this 10), .int (i_this 11), .int (i_this 12), .int (i_this 13), .int (i_this 14), .int (i_this 15), .int (i_this 16), .int ((i_this 17) + (1 : Int32)), .int (i_this 18), .ref h_this_read, .long (j_this 20), .ref h_this_many, .ref h_this_first, .ref h_this_lengths, .int (i_this 24), .long (j_this 25), .long (j_this 26), .ref h_this_page, .int (i_this 28)])), (h_this_text, .inl (cB, 100, .inl f_this_text)), (h_this_read, .inl (cI, 3, .inl f_this_read))] := hD
      refine lv_aload_n hx hb dX10_readsPart_168 rfl (lv_at hl 0 rfl) ?_
      refine va_get (D := (dC, dI)) (ci := 9) (v := .ref h_this_read) (C := RX10) (T := TX10) (N := 29) hx hb hts inX10 hown hK hP 0 rfl rfl 19 (by decide) (hts _ (kq q_1005 rfl)) (fun _ h9 => h9) rfl dX10_readsPart_169 ?_
      refine lv_iload hx hb dX10_readsPart_172 (lv_at hl 3 rfl) ?_
      have hP : va_P (dC, dI) vwCl [cl_X10 h_this h_this_dayAt h_this_secondAt h_this_spans h_this_kept h_this_text h_this_row h_this_read h_this_many h_this_first h_this_lengths h_this_page (upd i_this 17 ((i_this 17) + (1 : Int32))) j_this, (h_this_text, .inl (cB, 100, .inl f_this_text)), (h_this_read, .inl (cI, 3, .inl f_this_read))] H := hP
      have hD : va_D A [cl_X10 h_this h_this_dayAt h_this_secondAt h_this_spans h_this_kept h_this_text h_this_row h_this_read h_this_many h_this_first h_this_lengths h_this_page (upd i_this 17 ((i_this 17) + (1 : Int32))) j_this, (h_this_text, .inl (cB, 100, .inl f_this_text)), (h_this_read, .inl (cI, 3, .inl f_this_read))] := hD
      obtain ⟨r2, hc3, h⟩ := bd1_at h
      refine kjSI (kS0 (own := "DateSpansModel") (As := [.int v5]) (rest := [.ref h_this_read]) ⟨hx, hb, hml, hown, hts⟩ (kX10_partOf l N v5 r2 hc3) (kgS (kq q_1207 rfl) (kq q_1208 rfl) (kq q_66 rfl) (kq q_1209 rfl)) yd_X10_partOf ⟨Nat.le_of_ble_eq_true rfl, Nat.le_of_ble_eq_true rfl⟩ rfl rfl hl.1 rfl (lv_room (Nat.le_of_ble_eq_true rfl)) dX10_readsPart_174) ?_
      refine lv_dup2_11 hx hb dX10_readsPart_177 rfl rfl ?_
      obtain ⟨hi4, h⟩ := gi_at h
      refine va_iald hx hb hK hP 2 0 rfl rfl hi4 dX10_readsPart_178 ?_
      refine lv_iload_n hx hb dX10_readsPart_179 rfl (lv_at hl 1 rfl) ?_
      refine lv_if_eq (tgt := 188) hx hb dX10_readsPart_180 (by decide) (fun c5 => ?_) (fun c5 => ?_)
      · have h := ite_t c5 h
        refine lv_iload_n hx hb dX10_readsPart_188 rfl (lv_at hl 2 rfl) ?_
        refine lv_iload hx hb dX10_readsPart_189 (lv_at hl 3 rfl) ?_
        obtain ⟨r6, hc7, h⟩ := bd1_at h
        refine kjSI (kS0 (own := "DateSpansModel") (As := [.int v5]) (rest := [.int v3, .int (f_this_read r2.toNatClampNeg), .int r2, .ref h_this_read]) ⟨hx, hb, hml, hown, hts⟩ (kX10_counts l N v5 r6 hc7) (kgS (kq q_1210 rfl) (kq q_1211 rfl) (kq q_66 rfl) (kq q_1212 rfl)) yd_X10_counts ⟨Nat.le_of_ble_eq_true rfl, Nat.le_of_ble_eq_true rfl⟩ rfl rfl hl.1 rfl (lv_room (Nat.le_of_ble_eq_true rfl)) dX10_readsPart_191) ?_
        refine lv_imul hx hb dX10_readsPart_194 ?_
        refine lv_iadd hx hb dX10_readsPart_195 ?_
        obtain ⟨hi8, h⟩ := gi_at h
        refine va_iast hx hb hK hP hD hS 2 0 rfl rfl hi8 dX10_readsPart_196 (fun H locs hP hD hS => ?_)
        have hP : va_P (dC, dI) vwCl [cl_X10 h_this h_this_dayAt h_this_secondAt h_this_spans h_this_kept h_this_text h_this_row h_this_read h_this_many h_this_first h_this_lengths h_this_page (upd i_this 17 ((i_this 17) + (1 : Int32))) j_this, (h_this_text, .inl (cB, 100, .inl f_this_text)), (h_this_read, .inl (cI, 3, .inl (upd f_this_read r2.toNatClampNeg ((f_this_read r2.toNatClampNeg) + (v3 * r6)))))] H := hP
        have hD : va_D A [cl_X10 h_this h_this_dayAt h_this_secondAt h_this_spans h_this_kept h_this_text h_this_row h_this_read h_this_many h_this_first h_this_lengths h_this_page (upd i_this 17 ((i_this 17) + (1 : Int32))) j_this, (h_this_text, .inl (cB, 100, .inl f_this_text)), (h_this_read, .inl (cI, 3, .inl (upd f_this_read r2.toNatClampNeg ((f_this_read r2.toNatClampNeg) + (v3 * r6)))))] := hD
        refine lv_iload hx hb dX10_readsPart_197 (lv_at hl 3 rfl) ?_
        obtain ⟨rfl, rfl, rfl⟩ := pj3 h
        exact hEnd _ _ _ _ hP hS dX10_readsPart_199 rfl
      have h := ite_f c5 h
      refine lv_iload_n hx hb dX10_readsPart_183 rfl (lv_at hl 2 rfl) ?_
      refine lv_ineg hx hb dX10_readsPart_184 ?_
      refine lv_goto (tgt := 189) hx hb dX10_readsPart_185 (by decide) ?_
      refine lv_iload hx hb dX10_readsPart_189 (lv_at hl 3 rfl) ?_
      obtain ⟨r9, hc10, h⟩ := bd1_at h
      refine kjSI (kS0 (own := "DateSpansModel") (As := [.int v5]) (rest := [.int (-v3), .int (f_this_read r2.toNatClampNeg), .int r2, .ref h_this_read]) ⟨hx, hb, hml, hown, hts⟩ (kX10_counts l N v5 r9 hc10) (kgS (kq q_1210 rfl) (kq q_1211 rfl) (kq q_66 rfl) (kq q_1212 rfl)) yd_X10_counts ⟨Nat.le_of_ble_eq_true rfl, Nat.le_of_ble_eq_true rfl⟩ rfl rfl hl.1 rfl (lv_room (Nat.le_of_ble_eq_true rfl)) dX10_readsPart_191) ?_
      refine lv_imul hx hb dX10_readsPart_194 ?_
      refine lv_iadd hx hb dX10_readsPart_195 ?_
      obtain ⟨hi11, h⟩ := gi_at h
      refine va_iast hx hb hK hP hD hS 2 0 rfl rfl hi11 dX10_readsPart_196 (fun H locs hP hD hS => ?_)
      have hP : va_P (dC, dI) vwCl [cl_X10 h_this h_this_dayAt h_this_secondAt h_this_spans h_this_kept h_this_text h_this_row h_this_read h_this_many h_this_first h_this_lengths h_this_page (upd i_this 17 ((i_this 17) + (1 : Int32))) j_this, (h_this_text, .inl (cB, 100, .inl f_this_text)), (h_this_read, .inl (cI, 3, .inl (upd f_this_read r2.toNatClampNeg ((f_this_read r2.toNatClampNeg) + ((-v3) * r9)))))] H := hP
      have hD : va_D A [cl_X10 h_this h_this_dayAt h_this_secondAt h_this_spans h_this_kept h_this_text h_this_row h_this_read h_this_many h_this_first h_this_lengths h_this_page (upd i_this 17 ((i_this 17) + (1 : Int32))) j_this, (h_this_text, .inl (cB, 100, .inl f_this_text)), (h_this_read, .inl (cI, 3, .inl (upd f_this_read r2.toNatClampNeg ((f_this_read r2.toNatClampNeg) + ((-v3) * r9)))))] := hD
      refine lv_iload hx hb dX10_readsPart_197 (lv_at hl 3 rfl) ?_
      obtain ⟨rfl, rfl, rfl⟩ := pj3 h
      exact hEnd _ _ _ _ hP hS dX10_readsPart_199 rfl
    have h := ite_f c1 h
    refine lv_bipush (v := (7 : Int32)) hx hb dX10_readsPart_155 (by decide) ?_
    obtain ⟨rfl, rfl, rfl⟩ := pj3 h
    exact hEnd _ _ _ _ hP hS dX10_readsPart_157 rfl
  have JN_132 : ∀ (v2 : Int32) (v3 : Int32) (v5 : Int32) (i_this : Nat → Int32) (f_this_read : Nat → Int32) (ls : Array Slot) (H : Heap) (locs : List Loc), (fX10_readsPart_j132 N j_this f_this_text) v2 v3 v5 i_this f_this_read = some (r, o_i_this, o_f_this_read) → lv_has ls 6 [(0, .ref h_this), (2, .int v2), (3, .int v3), (5, .int v5)] → va_P (dC, dI) vwCl [cl_X10 h_this h_this_dayAt h_this_secondAt h_this_spans h_this_kept h_this_text h_this_row h_this_read h_this_many h_this_first h_this_lengths h_this_page i_this j_this, (h_this_text, .inl (cB, 100, .inl f_this_text)), (h_this_read, .inl (cI, 3, .inl f_this_read))] H → va_D A [cl_X10 h_this h_this_dayAt h_this_secondAt h_this_spans h_this_kept h_this_text h_this_row h_this_read h_this_many h_this_first h_this_lengths h_this_page i_this j_this, (h_this_text, .inl (cB, 100, .inl f_this_text)), (h_this_read, .inl (cI, 3, .inl f_this_read))] → va_S A s.heap H locs → W p l e (kR 5 105) s m args below meth c H locs 0 0 Q (F0 m 132 ls []) := by
    intro v2 v3 v5 i_this f_this_read ls H locs h hl hP hD hS
    unfold fX10_readsPart_j132 at h
    refine lv_iload hx hb dX10_readsPart_132 (lv_at hl 3 rfl) ?_
    refine lv_bipush (v := (7 : Int32)) hx hb dX10_readsPart_134 (by decide) ?_
    refine lv_icmp_ne (tgt := 147) hx hb dX10_readsPart_136 (by decide) (fun c12 => ?_) (fun c12 => ?_)
    · have h := ite_f c12 h
      exact JN_147 _ _ _ _ _ _ _ _ h (lv_sub hl [0, 1, 2, 3] rfl) hP hD hS
    have h := ite_t c12 h
    refine lv_aload_n hx hb dX10_readsPart_139 rfl (lv_at hl 0 rfl) ?_
    refine lv_aload_n hx hb dX10_readsPart_140 rfl (lv_at hl 0 rfl) ?_
    refine va_get (D := (dC, dI)) (ci := 9) (v := .int (i_this 17)) (C := RX10) (T := TX10) (N := 29) hx hb hts inX10 hown hK hP 0 rfl rfl 17 (by decide) (hts _ (kq q_1003 rfl)) (fun _ h9 => h9) rfl dX10_readsPart_141 ?_
    obtain ⟨i_this_13, hc14, h⟩ := bd1_at h
    refine kjV (kV (own := "DateSpansModel") (C := "DateSpansModel") (b := h_this) (As := [.int (i_this 17)]) (rest := []) ⟨hx, hb, hml, hown, hts⟩ (kX10_fault l dC dI cI cJ cB h_this h_this_dayAt h_this_secondAt h_this_spans h_this_kept h_this_text h_this_row h_this_read h_this_many h_this_first h_this_lengths h_this_page N (i_this 17) i_this j_this i_this_13 hc14 _) (kgV (kq q_1105 rfl) (kq q_1107 rfl) (kq q_21 rfl) (kq q_66 rfl) (kq q_1108 rfl)) yd_X10_fault ⟨Nat.le_of_ble_eq_true rfl, Nat.le_of_ble_eq_true rfl⟩ hN hK hP hD [0] rfl rfl (ci := 9) rfl rfl rfl rfl rfl hl.1 rfl (lv_room (Nat.le_of_ble_eq_true rfl)) dX10_readsPart_144) hP hD hS hA [0] rfl rfl (fun H locs hP hD hS => ?_)
    have hP : va_P (dC, dI) vwCl [cl_X10 h_this h_this_dayAt h_this_secondAt h_this_spans h_this_kept h_this_text h_this_row h_this_read h_this_many h_this_first h_this_lengths h_this_page i_this_13 j_this, (h_this_text, .inl (cB, 100, .inl f_this_text)), (h_this_read, .inl (cI, 3, .inl f_this_read))] H := hP
    have hD : va_D A [cl_X10 h_this h_this_dayAt h_this_secondAt h_this_spans h_this_kept h_this_text h_this_row h_this_read h_this_many h_this_first h_this_lengths h_this_page i_this_13 j_this, (h_this_text, .inl (cB, 100, .inl f_this_text)), (h_this_read, .inl (cI, 3, .inl f_this_read))] := hD
    exact JN_147 _ _ _ _ _ _ _ _ h (lv_sub hl [0, 1, 2, 3] rfl) hP hD hS
  have LP_107 : ∀ n_107 : Nat, ∀ (v2 : Int32) (v3 : Int32) (v5 : Int32) (i_this : Nat → Int32) (f_this_read : Nat → Int32) (ls : Array Slot) (H : Heap) (locs : List Loc), fX10_readsPart_l107 N j_this f_this_text n_107 v2 v3 v5 i_this f_this_read = some (r, o_i_this, o_f_this_read) → lv_has ls 6 [(0, .ref h_this), (2, .int v2), (3, .int v3), (5, .int v5)] → va_P (dC, dI) vwCl [cl_X10 h_this h_this_dayAt h_this_secondAt h_this_spans h_this_kept h_this_text h_this_row h_this_read h_this_many h_this_first h_this_lengths h_this_page i_this j_this, (h_this_text, .inl (cB, 100, .inl f_this_text)), (h_this_read, .inl (cI, 3, .inl f_this_read))] H → va_D A [cl_X10 h_this h_this_dayAt h_this_secondAt h_this_spans h_this_kept h_this_text h_this_row h_this_read h_this_many h_this_first h_this_lengths h_this_page i_this j_this, (h_this_text, .inl (cB, 100, .inl f_this_text)), (h_this_read, .inl (cI, 3, .inl f_this_read))] → va_S A s.heap H locs → W p l e (kR 5 105) s m args below meth c H locs 0 0 Q (F0 m 107 ls []) := by
    intro n_107
    induction n_107 with
    | zero =>
      intro v2 v3 v5 i_this f_this_read ls H locs h hl hP hD hS
      rw [fX10_readsPart_l107_0] at h; cases h
    | succ n_107 ih_107 =>
      intro v2 v3 v5 i_this f_this_read ls H locs h hl hP hD hS
      rw [fX10_readsPart_l107_s] at h
      refine lv_iload hx hb dX10_readsPart_107 (lv_at hl 3 rfl) ?_
      refine lv_bipush (v := (7 : Int32)) hx hb dX10_readsPart_109 (by decide) ?_
      refine lv_icmp_ge (tgt := 132) hx hb dX10_readsPart_111 (by decide) (fun c15 => ?_) (fun c15 => ?_)
      · have h := ite_t c15 h
        exact JN_132 _ _ _ _ _ _ _ _ h (lv_sub hl [0, 1, 2, 3] rfl) hP hD hS
      have h := ite_f c15 h
      refine lv_aload_n hx hb dX10_readsPart_114 rfl (lv_at hl 0 rfl) ?_
      obtain ⟨r16, hc17, h⟩ := bd1_at h
      refine kjI (kV (own := "DateSpansModel") (C := "DateSpansModel") (b := h_this) (As := []) (rest := []) ⟨hx, hb, hml, hown, hts⟩ (kX10_sees l dC dI cI cJ cB h_this h_this_dayAt h_this_secondAt h_this_spans h_this_kept h_this_text h_this_row h_this_read h_this_many h_this_first h_this_lengths h_this_page N i_this j_this f_this_text r16 hc17 _) (kgV (kq q_1101 rfl) (kq q_1103 rfl) (kq q_20 rfl) (kq q_66 rfl) (kq q_1104 rfl)) yd_X10_sees ⟨Nat.le_of_ble_eq_true rfl, Nat.le_of_ble_eq_true rfl⟩ hN hK hP hD [0, 1] rfl rfl (ci := 9) rfl rfl rfl rfl rfl hl.1 rfl (lv_room (Nat.le_of_ble_eq_true rfl)) dX10_readsPart_115) hP hD hS hA [0, 1] rfl rfl (fun H locs hP hD hS => ?_)
      have hP : va_P (dC, dI) vwCl [cl_X10 h_this h_this_dayAt h_this_secondAt h_this_spans h_this_kept h_this_text h_this_row h_this_read h_this_many h_this_first h_this_lengths h_this_page i_this j_this, (h_this_text, .inl (cB, 100, .inl f_this_text)), (h_this_read, .inl (cI, 3, .inl f_this_read))] H := hP
      have hD : va_D A [cl_X10 h_this h_this_dayAt h_this_secondAt h_this_spans h_this_kept h_this_text h_this_row h_this_read h_this_many h_this_first h_this_lengths h_this_page i_this j_this, (h_this_text, .inl (cB, 100, .inl f_this_text)), (h_this_read, .inl (cI, 3, .inl f_this_read))] := hD
      refine lv_iload hx hb dX10_readsPart_118 (lv_at hl 3 rfl) ?_
      obtain ⟨r18, hc19, h⟩ := bd1_at h
      refine kjSI (kSP (own := "DateSpansModel") (As := [.int v5]) (rest := [.int r16]) ⟨hx, hb, hml, hown, hts⟩ (kX10_letter l aK aV N v5 r18 hc19) (fun _ _ _ _ h => h.calling) (fun U hU hW => hG.pass hS (fun _ h => h.elim) hU hW) (kgS (kq q_1163 rfl) (kq q_1164 rfl) (kq q_66 rfl) (kq q_1165 rfl)) yd_X10_letter ⟨Nat.le_of_ble_eq_true rfl, Nat.le_of_ble_eq_true rfl⟩ rfl rfl hl.1 rfl (lv_room (Nat.le_of_ble_eq_true rfl)) dX10_readsPart_120) ?_
      refine lv_icmp_eq (tgt := 132) hx hb dX10_readsPart_123 (by decide) (fun c20 => ?_) (fun c20 => ?_)
      · have h := ite_t c20 h
        exact JN_132 _ _ _ _ _ _ _ _ h (lv_sub hl [0, 1, 2, 3] rfl) hP hD hS
      have h := ite_f c20 h
      obtain ⟨z21, ez21⟩ : ∃ y : Int32, y = (v5 + (1 : Int32)) := ⟨_, rfl⟩
      have h := nm_at ez21 h
      refine lv_iinc (v := z21) (lv' := [(5, .int z21), (0, .ref h_this), (2, .int v2), (3, .int v3)]) hx hb dX10_readsPart_126 hl (k := 3) rfl (by rw [ez21]; rfl) (by decide) rfl (fun ls hl => ?_)
      refine lv_goto (tgt := 107) hx hb dX10_readsPart_129 (by decide) ?_
      exact ih_107 _ _ _ _ _ _ _ _ h (lv_sub hl [1, 2, 3, 0] rfl) hP hD hS
  have LP_40 : ∀ n_40 : Nat, ∀ (v1 : Int32) (v2 : Int32) (v3 : Int32) (v4 : Int32) (i_this : Nat → Int32) (f_this_read : Nat → Int32) (ls : Array Slot) (H : Heap) (locs : List Loc), fX10_readsPart_l40 N j_this f_this_text n_40 v1 v2 v3 v4 i_this f_this_read = some (r, o_i_this, o_f_this_read) → lv_has ls 6 [(0, .ref h_this), (1, .int v1), (2, .int v2), (3, .int v3), (4, .int v4)] → va_P (dC, dI) vwCl [cl_X10 h_this h_this_dayAt h_this_secondAt h_this_spans h_this_kept h_this_text h_this_row h_this_read h_this_many h_this_first h_this_lengths h_this_page i_this j_this, (h_this_text, .inl (cB, 100, .inl f_this_text)), (h_this_read, .inl (cI, 3, .inl f_this_read))] H → va_D A [cl_X10 h_this h_this_dayAt h_this_secondAt h_this_spans h_this_kept h_this_text h_this_row h_this_read h_this_many h_this_first h_this_lengths h_this_page i_this j_this, (h_this_text, .inl (cB, 100, .inl f_this_text)), (h_this_read, .inl (cI, 3, .inl f_this_read))] → va_S A s.heap H locs → W p l e (kR 5 105) s m args below meth c H locs 0 0 Q (F0 m 40 ls []) := by
    intro n_40
    induction n_40 with
    | zero =>
      intro v1 v2 v3 v4 i_this f_this_read ls H locs h hl hP hD hS
      rw [fX10_readsPart_l40_0] at h; cases h
    | succ n_40 ih_40 =>
      intro v1 v2 v3 v4 i_this f_this_read ls H locs h hl hP hD hS
      rw [fX10_readsPart_l40_s] at h
      refine lv_aload_n hx hb dX10_readsPart_40 rfl (lv_at hl 0 rfl) ?_
      refine va_get (D := (dC, dI)) (ci := 9) (v := .int (i_this 18)) (C := RX10) (T := TX10) (N := 29) hx hb hts inX10 hown hK hP 0 rfl rfl 18 (by decide) (hts _ (kq q_1004 rfl)) (fun _ h9 => h9) rfl dX10_readsPart_41 ?_
      refine lv_iconst (v := (-1 : Int32)) hx hb dX10_readsPart_44 (by decide) ?_
      refine lv_icmp_ne (tgt := 104) hx hb dX10_readsPart_45 (by decide) (fun c22 => ?_) (fun c22 => ?_)
      · have h := ite_f c22 h
        refine lv_iload_n hx hb dX10_readsPart_104 rfl (lv_at hl 1 rfl) ?_
        refine lv_istore (lv' := [(5, .int v1), (0, .ref h_this), (1, .int v1), (2, .int v2), (3, .int v3), (4, .int v4)]) hx hb dX10_readsPart_105 hl (by decide) rfl (fun ls hl => ?_)
        exact LP_107 N _ _ _ _ _ _ _ _ h (lv_sub hl [1, 3, 4, 0] rfl) hP hD hS
      have h := ite_t c22 h
      refine lv_iload_n hx hb dX10_readsPart_48 rfl (lv_at hl 3 rfl) ?_
      refine lv_if_le (tgt := 104) hx hb dX10_readsPart_49 (by decide) (fun c23 => ?_) (fun c23 => ?_)
      · have h := ite_t c23 h
        refine lv_iload_n hx hb dX10_readsPart_104 rfl (lv_at hl 1 rfl) ?_
        refine lv_istore (lv' := [(5, .int v1), (0, .ref h_this), (1, .int v1), (2, .int v2), (3, .int v3), (4, .int v4)]) hx hb dX10_readsPart_105 hl (by decide) rfl (fun ls hl => ?_)
        exact LP_107 N _ _ _ _ _ _ _ _ h (lv_sub hl [1, 3, 4, 0] rfl) hP hD hS
      have h := ite_f c23 h
      refine lv_iload hx hb dX10_readsPart_52 (lv_at hl 4 rfl) ?_
      refine lv_iconst (v := (5 : Int32)) hx hb dX10_readsPart_54 (by decide) ?_
      refine lv_icmp_ge (tgt := 104) hx hb dX10_readsPart_55 (by decide) (fun c24 => ?_) (fun c24 => ?_)
      · have h := ite_t c24 h
        refine lv_iload_n hx hb dX10_readsPart_104 rfl (lv_at hl 1 rfl) ?_
        refine lv_istore (lv' := [(5, .int v1), (0, .ref h_this), (1, .int v1), (2, .int v2), (3, .int v3), (4, .int v4)]) hx hb dX10_readsPart_105 hl (by decide) rfl (fun ls hl => ?_)
        exact LP_107 N _ _ _ _ _ _ _ _ h (lv_sub hl [1, 3, 4, 0] rfl) hP hD hS
      have h := ite_f c24 h
      refine lv_aload_n hx hb dX10_readsPart_58 rfl (lv_at hl 0 rfl) ?_
      obtain ⟨r25, hc26, h⟩ := bd1_at h
      refine kjI (kV (own := "DateSpansModel") (C := "DateSpansModel") (b := h_this) (As := []) (rest := []) ⟨hx, hb, hml, hown, hts⟩ (kX10_sees l dC dI cI cJ cB h_this h_this_dayAt h_this_secondAt h_this_spans h_this_kept h_this_text h_this_row h_this_read h_this_many h_this_first h_this_lengths h_this_page N i_this j_this f_this_text r25 hc26 _) (kgV (kq q_1101 rfl) (kq q_1103 rfl) (kq q_20 rfl) (kq q_66 rfl) (kq q_1104 rfl)) yd_X10_sees ⟨Nat.le_of_ble_eq_true rfl, Nat.le_of_ble_eq_true rfl⟩ hN hK hP hD [0, 1] rfl rfl (ci := 9) rfl rfl rfl rfl rfl hl.1 rfl (lv_room (Nat.le_of_ble_eq_true rfl)) dX10_readsPart_59) hP hD hS hA [0, 1] rfl rfl (fun H locs hP hD hS => ?_)
      have hP : va_P (dC, dI) vwCl [cl_X10 h_this h_this_dayAt h_this_secondAt h_this_spans h_this_kept h_this_text h_this_row h_this_read h_this_many h_this_first h_this_lengths h_this_page i_this j_this, (h_this_text, .inl (cB, 100, .inl f_this_text)), (h_this_read, .inl (cI, 3, .inl f_this_read))] H := hP
      have hD : va_D A [cl_X10 h_this h_this_dayAt h_this_secondAt h_this_spans h_this_kept h_this_text h_this_row h_this_read h_this_many h_this_first h_this_lengths h_this_page i_this j_this, (h_this_text, .inl (cB, 100, .inl f_this_text)), (h_this_read, .inl (cI, 3, .inl f_this_read))] := hD
      refine lv_i2l hx hb dX10_readsPart_62 rfl ?_
      refine lv_ldc2 (v := (48 : Int64)) hx hb hown (hts _ (kq q_1161 rfl)) dX10_readsPart_63 ?_
      refine lv_ldc2 (v := (57 : Int64)) hx hb hown (hts _ (kq q_1162 rfl)) dX10_readsPart_66 ?_
      obtain ⟨r27, hc28, h⟩ := bd1_at h
      refine kjSI (kS0 (own := "DateSpansModel") (As := [.long r25.toInt64, .long (48 : Int64), .long (57 : Int64)]) (rest := []) ⟨hx, hb, hml, hown, hts⟩ (kX10_in l N r25.toInt64 (48 : Int64) (57 : Int64) r27 hc28) (kgS (kq q_1086 rfl) (kq q_1087 rfl) (kq q_66 rfl) (kq q_1088 rfl)) yd_X10_in ⟨Nat.le_of_ble_eq_true rfl, Nat.le_of_ble_eq_true rfl⟩ rfl rfl hl.1 rfl (lv_room (Nat.le_of_ble_eq_true rfl)) dX10_readsPart_69) ?_
      refine lv_if_eq (tgt := 104) hx hb dX10_readsPart_72 (by decide) (fun c29 => ?_) (fun c29 => ?_)
      · have h := ite_t c29 h
        refine lv_iload_n hx hb dX10_readsPart_104 rfl (lv_at hl 1 rfl) ?_
        refine lv_istore (lv' := [(5, .int v1), (0, .ref h_this), (1, .int v1), (2, .int v2), (3, .int v3), (4, .int v4)]) hx hb dX10_readsPart_105 hl (by decide) rfl (fun ls hl => ?_)
        exact LP_107 N _ _ _ _ _ _ _ _ h (lv_sub hl [1, 3, 4, 0] rfl) hP hD hS
      have h := ite_f c29 h
      refine lv_bipush (v := (10 : Int32)) hx hb dX10_readsPart_75 (by decide) ?_
      refine lv_iload_n hx hb dX10_readsPart_77 rfl (lv_at hl 3 rfl) ?_
      refine lv_imul hx hb dX10_readsPart_78 ?_
      refine lv_aload_n hx hb dX10_readsPart_79 rfl (lv_at hl 0 rfl) ?_
      obtain ⟨r30, hc31, h⟩ := bd1_at h
      refine kjI (kV (own := "DateSpansModel") (C := "DateSpansModel") (b := h_this) (As := []) (rest := [.int ((10 : Int32) * v3)]) ⟨hx, hb, hml, hown, hts⟩ (kX10_sees l dC dI cI cJ cB h_this h_this_dayAt h_this_secondAt h_this_spans h_this_kept h_this_text h_this_row h_this_read h_this_many h_this_first h_this_lengths h_this_page N i_this j_this f_this_text r30 hc31 _) (kgV (kq q_1101 rfl) (kq q_1103 rfl) (kq q_20 rfl) (kq q_66 rfl) (kq q_1104 rfl)) yd_X10_sees ⟨Nat.le_of_ble_eq_true rfl, Nat.le_of_ble_eq_true rfl⟩ hN hK hP hD [0, 1] rfl rfl (ci := 9) rfl rfl rfl rfl rfl hl.1 rfl (lv_room (Nat.le_of_ble_eq_true rfl)) dX10_readsPart_80) hP hD hS hA [0, 1] rfl rfl (fun H locs hP hD hS => ?_)
      have hP : va_P (dC, dI) vwCl [cl_X10 h_this h_this_dayAt h_this_secondAt h_this_spans h_this_kept h_this_text h_this_row h_this_read h_this_many h_this_first h_this_lengths h_this_page i_this j_this, (h_this_text, .inl (cB, 100, .inl f_this_text)), (h_this_read, .inl (cI, 3, .inl f_this_read))] H := hP
      have hD : va_D A [cl_X10 h_this h_this_dayAt h_this_secondAt h_this_spans h_this_kept h_this_text h_this_row h_this_read h_this_many h_this_first h_this_lengths h_this_page i_this j_this, (h_this_text, .inl (cB, 100, .inl f_this_text)), (h_this_read, .inl (cI, 3, .inl f_this_read))] := hD
      refine lv_iadd hx hb dX10_readsPart_83 ?_
      refine lv_bipush (v := (48 : Int32)) hx hb dX10_readsPart_84 (by decide) ?_
      refine lv_isub hx hb dX10_readsPart_86 ?_
      refine lv_topi (fun z32 ez32 => ?_)
      have h := nm_at ez32 h
      refine lv_istore_n (lv' := [(3, .int z32), (0, .ref h_this), (1, .int v1), (2, .int v2), (4, .int v4)]) hx hb dX10_readsPart_87 rfl hl (by decide) rfl (fun ls hl => ?_)
      refine lv_aload_n hx hb dX10_readsPart_88 rfl (lv_at hl 1 rfl) ?_
      refine lv_dup hx hb dX10_readsPart_89 rfl ?_
      refine va_get (D := (dC, dI)) (ci := 9) (v := .int (i_this 17)) (C := RX10) (T := TX10) (N := 29) hx hb hts inX10 hown hK hP 0 rfl rfl 17 (by decide) (hts _ (kq q_1003 rfl)) (fun _ h9 => h9) rfl dX10_readsPart_90 ?_
      refine lv_iconst (v := (1 : Int32)) hx hb dX10_readsPart_93 (by decide) ?_
      refine lv_iadd hx hb dX10_readsPart_94 ?_
      refine va_put (D := (dC, dI)) (ci := 9) (v := .int ((i_this 17) + (1 : Int32))) (ty := .int) (C := RX10) (T := TX10) (N := 29) hx hb hts inX10 tyX10 tyX10_ok nmX10 hown hK hP hD hS 0 rfl rfl 17 (by decide) (hts _ (kq q_1003 rfl)) (fun _ h9 => h9) rfl (by decide +kernel) rfl rfl (Nat.le_of_ble_eq_true rfl) dX10_readsPart_95 (fun H locs hP hD hS => ?_)
      have hP : va_P (dC, dI) vwCl [(h_this, .inr (9, [.ref h_this_dayAt, .ref h_this_secondAt, .ref h_this_spans, .ref h_this_kept, .int (i_this 4), .ref h_this_text, .int (i_this 6), .ref h_this_row, .int (i_this 8), .int (i_this 9), .int (i_this 10), .int (i_this 11), .int (i_this 12), .int (i_this 13), .int (i_this 14), .int (i_this 15), .int (i_this 16), .int ((i_this 17) + (1 : Int32)), .int (i_this 18), .ref h_this_read, .long (j_this 20), .ref h_this_many, .ref h_this_first, .ref h_this_lengths, .int (i_this 24), .long (j_this 25), .long (j_this 26), .ref h_this_page, .int (i_this 28)])), (h_this_text, .inl (cB, 100, .inl f_this_text)), (h_this_read, .inl (cI, 3, .inl f_this_read))] H := hP
      have hD : va_D A [(h_this, .inr (9, [.ref h_this_dayAt, .ref h_this_secondAt, .ref h_this_spans, .ref h_this_kept, .int (i_this 4), .ref h_this_text, .int (i_this 6), .ref h_this_row, .int (i_this 8), .int (i_this 9), .int (i_this 10), .int (i_this 11), .int (i_this 12), .int (i_this 13), .int (i_this 14), .int (i_this 15), .int (i_this 16), .int ((i_this 17) + (1 : Int32)), .int (i_this 18), .ref h_this_read, .long (j_this 20), .ref h_this_many, .ref h_this_first, .ref h_this_lengths, .int (i_this 24), .long (j_this 25), .long (j_this 26), .ref h_this_page, .int (i_this 28)])), (h_this_text, .inl (cB, 100, .inl f_this_text)), (h_this_read, .inl (cI, 3, .inl f_this_read))] := hD
      obtain ⟨z33, ez33⟩ : ∃ y : Int32, y = (v4 + (1 : Int32)) := ⟨_, rfl⟩
      have h := nm_at ez33 h
      refine lv_iinc (v := z33) (lv' := [(4, .int z33), (3, .int z32), (0, .ref h_this), (1, .int v1), (2, .int v2)]) hx hb dX10_readsPart_98 hl (k := 4) rfl (by rw [ez33]; rfl) (by decide) rfl (fun ls hl => ?_)
      refine lv_goto (tgt := 40) hx hb dX10_readsPart_101 (by decide) ?_
      have hP : va_P (dC, dI) vwCl [cl_X10 h_this h_this_dayAt h_this_secondAt h_this_spans h_this_kept h_this_text h_this_row h_this_read h_this_many h_this_first h_this_lengths h_this_page (upd i_this 17 ((i_this 17) + (1 : Int32))) j_this, (h_this_text, .inl (cB, 100, .inl f_this_text)), (h_this_read, .inl (cI, 3, .inl f_this_read))] H := hP
      have hD : va_D A [cl_X10 h_this h_this_dayAt h_this_secondAt h_this_spans h_this_kept h_this_text h_this_row h_this_read h_this_many h_this_first h_this_lengths h_this_page (upd i_this 17 ((i_this 17) + (1 : Int32))) j_this, (h_this_text, .inl (cB, 100, .inl f_this_text)), (h_this_read, .inl (cI, 3, .inl f_this_read))] := hD
      exact ih_40 _ _ _ _ _ _ _ _ _ h (lv_sub hl [2, 3, 4, 1, 0] rfl) hP hD hS
  have JN_14 : ∀ (v1 : Int32) (t0 : Int32) (i_this : Nat → Int32) (f_this_read : Nat → Int32) (ls : Array Slot) (H : Heap) (locs : List Loc), (fX10_readsPart_j14 N j_this f_this_text) v1 t0 i_this f_this_read = some (r, o_i_this, o_f_this_read) → lv_has ls 6 [(0, .ref h_this), (1, .int v1)] → va_P (dC, dI) vwCl [cl_X10 h_this h_this_dayAt h_this_secondAt h_this_spans h_this_kept h_this_text h_this_row h_this_read h_this_many h_this_first h_this_lengths h_this_page i_this j_this, (h_this_text, .inl (cB, 100, .inl f_this_text)), (h_this_read, .inl (cI, 3, .inl f_this_read))] H → va_D A [cl_X10 h_this h_this_dayAt h_this_secondAt h_this_spans h_this_kept h_this_text h_this_row h_this_read h_this_many h_this_first h_this_lengths h_this_page i_this j_this, (h_this_text, .inl (cB, 100, .inl f_this_text)), (h_this_read, .inl (cI, 3, .inl f_this_read))] → va_S A s.heap H locs → W p l e (kR 5 105) s m args below meth c H locs 0 0 Q (F0 m 14 ls [.int t0]) := by
    intro v1 t0 i_this f_this_read ls H locs h hl hP hD hS
    unfold fX10_readsPart_j14 at h
    refine lv_istore_n (lv' := [(2, .int t0), (0, .ref h_this), (1, .int v1)]) hx hb dX10_readsPart_14 rfl hl (by decide) rfl (fun ls hl => ?_)
    refine lv_iload_n hx hb dX10_readsPart_15 rfl (lv_at hl 0 rfl) ?_
    refine lv_if_eq (tgt := 29) hx hb dX10_readsPart_16 (by decide) (fun c34 => ?_) (fun c34 => ?_)
    · have h := ite_t c34 h
      refine lv_aload_n hx hb dX10_readsPart_29 rfl (lv_at hl 1 rfl) ?_
      refine lv_iconst (v := (0 : Int32)) hx hb dX10_readsPart_30 (by decide) ?_
      refine lv_bipush (v := (9 : Int32)) hx hb dX10_readsPart_31 (by decide) ?_
      obtain ⟨r35, i_this_36, hc37, h⟩ := bd2_at h
      refine kjI (kV (own := "DateSpansModel") (C := "DateSpansModel") (b := h_this) (As := [.int (0 : Int32), .int (9 : Int32)]) (rest := []) ⟨hx, hb, hml, hown, hts⟩ (kX10_digit l dC dI cI cJ cB h_this h_this_dayAt h_this_secondAt h_this_spans h_this_kept h_this_text h_this_row h_this_read h_this_many h_this_first h_this_lengths h_this_page N (0 : Int32) (9 : Int32) i_this j_this f_this_text r35 i_this_36 hc37 _) (kgV (kq q_1097 rfl) (kq q_1099 rfl) (kq q_19 rfl) (kq q_66 rfl) (kq q_1100 rfl)) yd_X10_digit ⟨Nat.le_of_ble_eq_true rfl, Nat.le_of_ble_eq_true rfl⟩ hN hK hP hD [0, 1] rfl rfl (ci := 9) rfl rfl rfl rfl rfl hl.1 rfl (lv_room (Nat.le_of_ble_eq_true rfl)) dX10_readsPart_33) hP hD hS hA [0, 1] rfl rfl (fun H locs hP hD hS => ?_)
      have hP : va_P (dC, dI) vwCl [cl_X10 h_this h_this_dayAt h_this_secondAt h_this_spans h_this_kept h_this_text h_this_row h_this_read h_this_many h_this_first h_this_lengths h_this_page i_this_36 j_this, (h_this_text, .inl (cB, 100, .inl f_this_text)), (h_this_read, .inl (cI, 3, .inl f_this_read))] H := hP
      have hD : va_D A [cl_X10 h_this h_this_dayAt h_this_secondAt h_this_spans h_this_kept h_this_text h_this_row h_this_read h_this_many h_this_first h_this_lengths h_this_page i_this_36 j_this, (h_this_text, .inl (cB, 100, .inl f_this_text)), (h_this_read, .inl (cI, 3, .inl f_this_read))] := hD
      refine lv_istore_n (lv' := [(3, .int r35), (2, .int t0), (0, .ref h_this), (1, .int v1)]) hx hb dX10_readsPart_36 rfl hl (by decide) rfl (fun ls hl => ?_)
      refine lv_iconst (v := (1 : Int32)) hx hb dX10_readsPart_37 (by decide) ?_
      refine lv_istore (lv' := [(4, .int (1 : Int32)), (3, .int r35), (2, .int t0), (0, .ref h_this), (1, .int v1)]) hx hb dX10_readsPart_38 hl (by decide) rfl (fun ls hl => ?_)
      exact LP_40 N _ _ _ _ _ _ _ _ _ h (lv_sub hl [3, 4, 2, 1, 0] rfl) hP hD hS
    have h := ite_f c34 h
    refine lv_aload_n hx hb dX10_readsPart_19 rfl (lv_at hl 1 rfl) ?_
    refine lv_dup hx hb dX10_readsPart_20 rfl ?_
    refine va_get (D := (dC, dI)) (ci := 9) (v := .int (i_this 17)) (C := RX10) (T := TX10) (N := 29) hx hb hts inX10 hown hK hP 0 rfl rfl 17 (by decide) (hts _ (kq q_1003 rfl)) (fun _ h9 => h9) rfl dX10_readsPart_21 ?_
    refine lv_iconst (v := (1 : Int32)) hx hb dX10_readsPart_24 (by decide) ?_
    refine lv_iadd hx hb dX10_readsPart_25 ?_
    refine va_put (D := (dC, dI)) (ci := 9) (v := .int ((i_this 17) + (1 : Int32))) (ty := .int) (C := RX10) (T := TX10) (N := 29) hx hb hts inX10 tyX10 tyX10_ok nmX10 hown hK hP hD hS 0 rfl rfl 17 (by decide) (hts _ (kq q_1003 rfl)) (fun _ h9 => h9) rfl (by decide +kernel) rfl rfl (Nat.le_of_ble_eq_true rfl) dX10_readsPart_26 (fun H locs hP hD hS => ?_)
    have hP : va_P (dC, dI) vwCl [(h_this, .inr (9, [.ref h_this_dayAt, .ref h_this_secondAt, .ref h_this_spans, .ref h_this_kept, .int (i_this 4), .ref h_this_text, .int (i_this 6), .ref h_this_row, .int (i_this 8), .int (i_this 9), .int (i_this 10), .int (i_this 11), .int (i_this 12), .int (i_this 13), .int (i_this 14), .int (i_this 15), .int (i_this 16), .int ((i_this 17) + (1 : Int32)), .int (i_this 18), .ref h_this_read, .long (j_this 20), .ref h_this_many, .ref h_this_first, .ref h_this_lengths, .int (i_this 24), .long (j_this 25), .long (j_this 26), .ref h_this_page, .int (i_this 28)])), (h_this_text, .inl (cB, 100, .inl f_this_text)), (h_this_read, .inl (cI, 3, .inl f_this_read))] H := hP
    have hD : va_D A [(h_this, .inr (9, [.ref h_this_dayAt, .ref h_this_secondAt, .ref h_this_spans, .ref h_this_kept, .int (i_this 4), .ref h_this_text, .int (i_this 6), .ref h_this_row, .int (i_this 8), .int (i_this 9), .int (i_this 10), .int (i_this 11), .int (i_this 12), .int (i_this 13), .int (i_this 14), .int (i_this 15), .int (i_this 16), .int ((i_this 17) + (1 : Int32)), .int (i_this 18), .ref h_this_read, .long (j_this 20), .ref h_this_many, .ref h_this_first, .ref h_this_lengths, .int (i_this 24), .long (j_this 25), .long (j_this 26), .ref h_this_page, .int (i_this 28)])), (h_this_text, .inl (cB, 100, .inl f_this_text)), (h_this_read, .inl (cI, 3, .inl f_this_read))] := hD
    refine lv_aload_n hx hb dX10_readsPart_29 rfl (lv_at hl 1 rfl) ?_
    refine lv_iconst (v := (0 : Int32)) hx hb dX10_readsPart_30 (by decide) ?_
    refine lv_bipush (v := (9 : Int32)) hx hb dX10_readsPart_31 (by decide) ?_
    have hP : va_P (dC, dI) vwCl [cl_X10 h_this h_this_dayAt h_this_secondAt h_this_spans h_this_kept h_this_text h_this_row h_this_read h_this_many h_this_first h_this_lengths h_this_page (upd i_this 17 ((i_this 17) + (1 : Int32))) j_this, (h_this_text, .inl (cB, 100, .inl f_this_text)), (h_this_read, .inl (cI, 3, .inl f_this_read))] H := hP
    have hD : va_D A [cl_X10 h_this h_this_dayAt h_this_secondAt h_this_spans h_this_kept h_this_text h_this_row h_this_read h_this_many h_this_first h_this_lengths h_this_page (upd i_this 17 ((i_this 17) + (1 : Int32))) j_this, (h_this_text, .inl (cB, 100, .inl f_this_text)), (h_this_read, .inl (cI, 3, .inl f_this_read))] := hD
    obtain ⟨r38, i_this_39, hc40, h⟩ := bd2_at h
    refine kjI (kV (own := "DateSpansModel") (C := "DateSpansModel") (b := h_this) (As := [.int (0 : Int32), .int (9 : Int32)]) (rest := []) ⟨hx, hb, hml, hown, hts⟩ (kX10_digit l dC dI cI cJ cB h_this h_this_dayAt h_this_secondAt h_this_spans h_this_kept h_this_text h_this_row h_this_read h_this_many h_this_first h_this_lengths h_this_page N (0 : Int32) (9 : Int32) (upd i_this 17 ((i_this 17) + (1 : Int32))) j_this f_this_text r38 i_this_39 hc40 _) (kgV (kq q_1097 rfl) (kq q_1099 rfl) (kq q_19 rfl) (kq q_66 rfl) (kq q_1100 rfl)) yd_X10_digit ⟨Nat.le_of_ble_eq_true rfl, Nat.le_of_ble_eq_true rfl⟩ hN hK hP hD [0, 1] rfl rfl (ci := 9) rfl rfl rfl rfl rfl hl.1 rfl (lv_room (Nat.le_of_ble_eq_true rfl)) dX10_readsPart_33) hP hD hS hA [0, 1] rfl rfl (fun H locs hP hD hS => ?_)
    have hP : va_P (dC, dI) vwCl [cl_X10 h_this h_this_dayAt h_this_secondAt h_this_spans h_this_kept h_this_text h_this_row h_this_read h_this_many h_this_first h_this_lengths h_this_page i_this_39 j_this, (h_this_text, .inl (cB, 100, .inl f_this_text)), (h_this_read, .inl (cI, 3, .inl f_this_read))] H := hP
    have hD : va_D A [cl_X10 h_this h_this_dayAt h_this_secondAt h_this_spans h_this_kept h_this_text h_this_row h_this_read h_this_many h_this_first h_this_lengths h_this_page i_this_39 j_this, (h_this_text, .inl (cB, 100, .inl f_this_text)), (h_this_read, .inl (cI, 3, .inl f_this_read))] := hD
    refine lv_istore_n (lv' := [(3, .int r38), (2, .int t0), (0, .ref h_this), (1, .int v1)]) hx hb dX10_readsPart_36 rfl hl (by decide) rfl (fun ls hl => ?_)
    refine lv_iconst (v := (1 : Int32)) hx hb dX10_readsPart_37 (by decide) ?_
    refine lv_istore (lv' := [(4, .int (1 : Int32)), (3, .int r38), (2, .int t0), (0, .ref h_this), (1, .int v1)]) hx hb dX10_readsPart_38 hl (by decide) rfl (fun ls hl => ?_)
    exact LP_40 N _ _ _ _ _ _ _ _ _ h (lv_sub hl [3, 4, 2, 1, 0] rfl) hP hD hS
  have h := hf
  unfold fX10_readsPart at h
  refine lv_aload_n hx hb dX10_readsPart_0 rfl (lv_at hl 0 rfl) ?_
  obtain ⟨r41, hc42, h⟩ := bd1_at h
  refine kjI (kV (own := "DateSpansModel") (C := "DateSpansModel") (b := h_this) (As := []) (rest := []) ⟨hx, hb, hml, hown, hts⟩ (kX10_sees l dC dI cI cJ cB h_this h_this_dayAt h_this_secondAt h_this_spans h_this_kept h_this_text h_this_row h_this_read h_this_many h_this_first h_this_lengths h_this_page N i_this j_this f_this_text r41 hc42 _) (kgV (kq q_1101 rfl) (kq q_1103 rfl) (kq q_20 rfl) (kq q_66 rfl) (kq q_1104 rfl)) yd_X10_sees ⟨Nat.le_of_ble_eq_true rfl, Nat.le_of_ble_eq_true rfl⟩ hN hK hP hD [0, 1] rfl rfl (ci := 9) rfl rfl rfl rfl rfl hl.1 rfl (lv_room (Nat.le_of_ble_eq_true rfl)) dX10_readsPart_1) hP hD hS hA [0, 1] rfl rfl (fun H locs hP hD hS => ?_)
  have hP : va_P (dC, dI) vwCl [cl_X10 h_this h_this_dayAt h_this_secondAt h_this_spans h_this_kept h_this_text h_this_row h_this_read h_this_many h_this_first h_this_lengths h_this_page i_this j_this, (h_this_text, .inl (cB, 100, .inl f_this_text)), (h_this_read, .inl (cI, 3, .inl f_this_read))] H := hP
  have hD : va_D A [cl_X10 h_this h_this_dayAt h_this_secondAt h_this_spans h_this_kept h_this_text h_this_row h_this_read h_this_many h_this_first h_this_lengths h_this_page i_this j_this, (h_this_text, .inl (cB, 100, .inl f_this_text)), (h_this_read, .inl (cI, 3, .inl f_this_read))] := hD
  refine lv_bipush (v := (45 : Int32)) hx hb dX10_readsPart_4 (by decide) ?_
  refine lv_icmp_ne (tgt := 13) hx hb dX10_readsPart_6 (by decide) (fun c43 => ?_) (fun c43 => ?_)
  · have h := ite_f c43 h
    refine lv_iconst (v := (0 : Int32)) hx hb dX10_readsPart_13 (by decide) ?_
    exact JN_14 _ _ _ _ _ _ _ h (lv_sub hl [0, 1] rfl) hP hD hS
  have h := ite_t c43 h
  refine lv_iconst (v := (1 : Int32)) hx hb dX10_readsPart_9 (by decide) ?_
  refine lv_goto (tgt := 14) hx hb dX10_readsPart_10 (by decide) ?_
  exact JN_14 _ _ _ _ _ _ _ h (lv_sub hl [0, 1] rfl) hP hD hS
noncomputable def fX10_span_j98 (N : Nat) (j_this : Nat → Int64) (f_this_text : Nat → Int32) (v1 : Int32) (i_this : Nat → Int32) (f_this_spans : Nat → Int32) (f_this_row : Nat → Int64) (f_this_read : Nat → Int32) : Option (Int32 × (Nat → Int32) × (Nat → Int32) × (Nat → Int64) × (Nat → Int32)) := (if (i_this 18) = (-1 : Int32) then (bd1 (fX10_isSlot N v1) fun r2 => (if r2 = (0 : Int32) then (some ((-1 : Int32), i_this, f_this_spans, f_this_row, f_this_read)) else (gi (0 : Int32) 3 (gi (1 : Int32) 3 (gi (2 : Int32) 3 (bd1 (fX10_laysSpan N v1 ((f_this_read (0 : Int32).toNatClampNeg).toInt64) ((f_this_read (1 : Int32).toNatClampNeg).toInt64) ((f_this_read (2 : Int32).toNatClampNeg).toInt64) i_this j_this f_this_spans) fun f_this_spans_8 => (bd2 (fX10_tellsSpan N v1 i_this j_this f_this_spans_8 f_this_row) fun i_this_10 f_this_row_11 => (gi (0 : Int32) 3 (some ((f_this_read (0 : Int32).toNatClampNeg), i_this_10, f_this_spans_8, f_this_row_11, f_this_read)))))))))) else (some (((-21 : Int32) - (i_this 18)), i_this, f_this_spans, f_this_row, f_this_read)))
noncomputable def fX10_span_j71 (N : Nat) (j_this : Nat → Int64) (f_this_text : Nat → Int32) (v1 : Int32) (i_this : Nat → Int32) (f_this_spans : Nat → Int32) (f_this_row : Nat → Int64) (f_this_read : Nat → Int32) : Option (Int32 × (Nat → Int32) × (Nat → Int32) × (Nat → Int64) × (Nat → Int32)) := (if (i_this 18) = (-1 : Int32) then (if (i_this 16) ≤ (i_this 17) then (fX10_span_j98 N j_this f_this_text v1 i_this f_this_spans f_this_row f_this_read) else (bd1 (fX10_fault N (i_this 17) i_this j_this) fun i_this_16 => (fX10_span_j98 N j_this f_this_text v1 i_this_16 f_this_spans f_this_row f_this_read))) else (fX10_span_j98 N j_this f_this_text v1 i_this f_this_spans f_this_row f_this_read))
noncomputable def fX10_span_l35 (N : Nat) (j_this : Nat → Int64) (f_this_text : Nat → Int32) (n : Nat) : Int32 → Int32 → (Nat → Int32) → (Nat → Int32) → (Nat → Int64) → (Nat → Int32) → Option (Int32 × (Nat → Int32) × (Nat → Int32) × (Nat → Int64) × (Nat → Int32)) := Nat.rec (motive := fun _ => Int32 → Int32 → (Nat → Int32) → (Nat → Int32) → (Nat → Int64) → (Nat → Int32) → Option (Int32 × (Nat → Int32) × (Nat → Int32) × (Nat → Int64) × (Nat → Int32))) (fun _ _ _ _ _ _ => none) (fun _ K_35 v1 v2 i_this f_this_spans f_this_row f_this_read => (if (i_this 18) = (-1 : Int32) then (if (i_this 16) ≤ (i_this 17) then (fX10_span_j71 N j_this f_this_text v1 i_this f_this_spans f_this_row f_this_read) else (if (6 : Int32) ≤ v2 then (fX10_span_j71 N j_this f_this_text v1 i_this f_this_spans f_this_row f_this_read) else (bd3 (fX10_readsPart N (v2 + (1 : Int32)) i_this j_this f_this_text f_this_read) fun r21 i_this_22 f_this_read_23 => (K_35 v1 r21 i_this_22 f_this_spans f_this_row f_this_read_23)))) else (fX10_span_j71 N j_this f_this_text v1 i_this f_this_spans f_this_row f_this_read))) n
theorem fX10_span_l35_s (N : Nat) (j_this : Nat → Int64) (f_this_text : Nat → Int32) (n : Nat) (v1 : Int32) (v2 : Int32) (i_this : Nat → Int32) (f_this_spans : Nat → Int32) (f_this_row : Nat → Int64) (f_this_read : Nat → Int32) : fX10_span_l35 N j_this f_this_text (n + 1) v1 v2 i_this f_this_spans f_this_row f_this_read = (if (i_this 18) = (-1 : Int32) then (if (i_this 16) ≤ (i_this 17) then (fX10_span_j71 N j_this f_this_text v1 i_this f_this_spans f_this_row f_this_read) else (if (6 : Int32) ≤ v2 then (fX10_span_j71 N j_this f_this_text v1 i_this f_this_spans f_this_row f_this_read) else (bd3 (fX10_readsPart N (v2 + (1 : Int32)) i_this j_this f_this_text f_this_read) fun r21 i_this_22 f_this_read_23 => ((fX10_span_l35 N j_this f_this_text n) v1 r21 i_this_22 f_this_spans f_this_row f_this_read_23)))) else (fX10_span_j71 N j_this f_this_text v1 i_this f_this_spans f_this_row f_this_read)) := rfl
theorem fX10_span_l35_0 (N : Nat) (j_this : Nat → Int64) (f_this_text : Nat → Int32) (v1 : Int32) (v2 : Int32) (i_this : Nat → Int32) (f_this_spans : Nat → Int32) (f_this_row : Nat → Int64) (f_this_read : Nat → Int32) : fX10_span_l35 N j_this f_this_text 0 v1 v2 i_this f_this_spans f_this_row f_this_read = none := rfl
noncomputable def fX10_span_l11 (N : Nat) (j_this : Nat → Int64) (f_this_text : Nat → Int32) (n : Nat) : Int32 → Int32 → (Nat → Int32) → (Nat → Int32) → (Nat → Int64) → (Nat → Int32) → Option (Int32 × (Nat → Int32) × (Nat → Int32) × (Nat → Int64) × (Nat → Int32)) := Nat.rec (motive := fun _ => Int32 → Int32 → (Nat → Int32) → (Nat → Int32) → (Nat → Int64) → (Nat → Int32) → Option (Int32 × (Nat → Int32) × (Nat → Int32) × (Nat → Int64) × (Nat → Int32))) (fun _ _ _ _ _ _ => none) (fun _ K_11 v1 v2 i_this f_this_spans f_this_row f_this_read => (if (3 : Int32) ≤ v2 then (bd3 (fX10_readsPart N (0 : Int32) i_this j_this f_this_text f_this_read) fun r26 i_this_27 f_this_read_28 => (fX10_span_l35 N j_this f_this_text N v1 r26 i_this_27 f_this_spans f_this_row f_this_read_28)) else (gi v2 3 (nm (v2 + (1 : Int32)) fun z31 => (K_11 v1 z31 i_this f_this_spans f_this_row (upd f_this_read v2.toNatClampNeg (0 : Int32))))))) n
theorem fX10_span_l11_s (N : Nat) (j_this : Nat → Int64) (f_this_text : Nat → Int32) (n : Nat) (v1 : Int32) (v2 : Int32) (i_this : Nat → Int32) (f_this_spans : Nat → Int32) (f_this_row : Nat → Int64) (f_this_read : Nat → Int32) : fX10_span_l11 N j_this f_this_text (n + 1) v1 v2 i_this f_this_spans f_this_row f_this_read = (if (3 : Int32) ≤ v2 then (bd3 (fX10_readsPart N (0 : Int32) i_this j_this f_this_text f_this_read) fun r26 i_this_27 f_this_read_28 => (fX10_span_l35 N j_this f_this_text N v1 r26 i_this_27 f_this_spans f_this_row f_this_read_28)) else (gi v2 3 (nm (v2 + (1 : Int32)) fun z31 => ((fX10_span_l11 N j_this f_this_text n) v1 z31 i_this f_this_spans f_this_row (upd f_this_read v2.toNatClampNeg (0 : Int32)))))) := rfl
theorem fX10_span_l11_0 (N : Nat) (j_this : Nat → Int64) (f_this_text : Nat → Int32) (v1 : Int32) (v2 : Int32) (i_this : Nat → Int32) (f_this_spans : Nat → Int32) (f_this_row : Nat → Int64) (f_this_read : Nat → Int32) : fX10_span_l11 N j_this f_this_text 0 v1 v2 i_this f_this_spans f_this_row f_this_read = none := rfl
noncomputable def fX10_span (N : Nat) (p1 : Int32) (i_this : Nat → Int32) (j_this : Nat → Int64) (f_this_spans : Nat → Int32) (f_this_text : Nat → Int32) (f_this_row : Nat → Int64) (f_this_read : Nat → Int32) : Option (Int32 × (Nat → Int32) × (Nat → Int32) × (Nat → Int64) × (Nat → Int32)) := (bd1 (fX10_begin N (upd i_this 9 (0 : Int32)) j_this) fun i_this_32 => (fX10_span_l11 N j_this f_this_text N p1 (0 : Int32) i_this_32 f_this_spans f_this_row f_this_read))
set_option maxHeartbeats 4000000 in
set_option maxRecDepth 100000 in
theorem kX10_span (l : Launch) (aK aV : Nat) (dC : Nat → ClassId) (dI : Nat → Nat → Nat) (cI cJ cB : ClassId) (h_this h_this_dayAt h_this_secondAt h_this_spans h_this_kept h_this_text h_this_row h_this_read h_this_many h_this_first h_this_lengths h_this_page : Nat) (N : Nat) (p1 : Int32) (i_this : Nat → Int32) (j_this : Nat → Int64) (f_this_spans : Nat → Int32) (f_this_text : Nat → Int32) (f_this_row : Nat → Int64) (f_this_read : Nat → Int32) (r : Int32) (o_i_this : Nat → Int32) (o_f_this_spans : Nat → Int32) (o_f_this_row : Nat → Int64) (o_f_this_read : Nat → Int32) (hf : fX10_span N p1 i_this j_this f_this_spans f_this_text f_this_row f_this_read = some (r, o_i_this, o_f_this_spans, o_f_this_row, o_f_this_read)) : MIs l yX10_span (kws yX10_span cX10_span 3 (some .int)) (kR 6 130) aK aV (dC, dI) (kT cI cJ cB) [.ref h_this, .int p1] [cl_X10 h_this h_this_dayAt h_this_secondAt h_this_spans h_this_kept h_this_text h_this_row h_this_read h_this_many h_this_first h_this_lengths h_this_page i_this j_this, (h_this_spans, .inl (cI, 24, .inl f_this_spans)), (h_this_text, .inl (cB, 100, .inl f_this_text)), (h_this_row, .inl (cJ, 16, .inr (.inl f_this_row))), (h_this_read, .inl (cI, 3, .inl f_this_read))] [cl_X10 h_this h_this_dayAt h_this_secondAt h_this_spans h_this_kept h_this_text h_this_row h_this_read h_this_many h_this_first h_this_lengths h_this_page o_i_this j_this, (h_this_spans, .inl (cI, 24, .inl o_f_this_spans)), (h_this_text, .inl (cB, 100, .inl f_this_text)), (h_this_row, .inl (cJ, 16, .inr (.inl o_f_this_row))), (h_this_read, .inl (cI, 3, .inl o_f_this_read))] r := by
  refine MIs.of (cc := cX10_span) (maxL := 3) (by decide) (Nat.le_of_ble_eq_true rfl) (fun p e s m args below meth c A Q ls KC hN hK hP hD hA hG hl hEnd => ?_)
  obtain ⟨hx, hb, hml, hown, hts⟩ := KC
  have hown : s.vm.findClass "DateSpansModel" = some m.cls := hown
  have hl : lv_has ls 3 [(0, .ref h_this), (1, .int p1)] := hl
  have hS : va_S A s.heap s.heap [] := va_S.rf
  have JN_98 : ∀ (v1 : Int32) (i_this : Nat → Int32) (f_this_spans : Nat → Int32) (f_this_row : Nat → Int64) (f_this_read : Nat → Int32) (ls : Array Slot) (H : Heap) (locs : List Loc), (fX10_span_j98 N j_this f_this_text) v1 i_this f_this_spans f_this_row f_this_read = some (r, o_i_this, o_f_this_spans, o_f_this_row, o_f_this_read) → lv_has ls 3 [(0, .ref h_this), (1, .int v1)] → va_P (dC, dI) vwCl [cl_X10 h_this h_this_dayAt h_this_secondAt h_this_spans h_this_kept h_this_text h_this_row h_this_read h_this_many h_this_first h_this_lengths h_this_page i_this j_this, (h_this_spans, .inl (cI, 24, .inl f_this_spans)), (h_this_text, .inl (cB, 100, .inl f_this_text)), (h_this_row, .inl (cJ, 16, .inr (.inl f_this_row))), (h_this_read, .inl (cI, 3, .inl f_this_read))] H → va_D A [cl_X10 h_this h_this_dayAt h_this_secondAt h_this_spans h_this_kept h_this_text h_this_row h_this_read h_this_many h_this_first h_this_lengths h_this_page i_this j_this, (h_this_spans, .inl (cI, 24, .inl f_this_spans)), (h_this_text, .inl (cB, 100, .inl f_this_text)), (h_this_row, .inl (cJ, 16, .inr (.inl f_this_row))), (h_this_read, .inl (cI, 3, .inl f_this_read))] → va_S A s.heap H locs → W p l e (kR 6 130) s m args below meth c H locs 0 0 Q (F0 m 98 ls []) := by
    intro v1 i_this f_this_spans f_this_row f_this_read ls H locs h hl hP hD hS
    unfold fX10_span_j98 at h
    refine lv_aload_n hx hb dX10_span_98 rfl (lv_at hl 0 rfl) ?_
    refine va_get (D := (dC, dI)) (ci := 9) (v := .int (i_this 18)) (C := RX10) (T := TX10) (N := 29) hx hb hts inX10 hown hK hP 0 rfl rfl 18 (by decide) (hts _ (kq q_1004 rfl)) (fun _ h9 => h9) rfl dX10_span_99 ?_
    refine lv_iconst (v := (-1 : Int32)) hx hb dX10_span_102 (by decide) ?_
    refine lv_icmp_eq (tgt := 114) hx hb dX10_span_103 (by decide) (fun c1 => ?_) (fun c1 => ?_)
    · have h := ite_t c1 h
      refine lv_iload_n hx hb dX10_span_114 rfl (lv_at hl 1 rfl) ?_
      obtain ⟨r2, hc3, h⟩ := bd1_at h
      refine kjSI (kS0 (own := "DateSpansModel") (As := [.int v1]) (rest := []) ⟨hx, hb, hml, hown, hts⟩ (kX10_isSlot l N v1 r2 hc3) (kgS (kq q_1123 rfl) (kq q_1124 rfl) (kq q_66 rfl) (kq q_1125 rfl)) yd_X10_isSlot ⟨Nat.le_of_ble_eq_true rfl, Nat.le_of_ble_eq_true rfl⟩ rfl rfl hl.1 rfl (lv_room (Nat.le_of_ble_eq_true rfl)) dX10_span_115) ?_
      refine lv_if_ne (tgt := 123) hx hb dX10_span_118 (by decide) (fun c4 => ?_) (fun c4 => ?_)
      · have h := ite_f c4 h
        refine lv_aload_n hx hb dX10_span_123 rfl (lv_at hl 0 rfl) ?_
        refine lv_iload_n hx hb dX10_span_124 rfl (lv_at hl 1 rfl) ?_
        refine lv_aload_n hx hb dX10_span_125 rfl (lv_at hl 0 rfl) ?_
        refine va_get (D := (dC, dI)) (ci := 9) (v := .ref h_this_read) (C := RX10) (T := TX10) (N := 29) hx hb hts inX10 hown hK hP 0 rfl rfl 19 (by decide) (hts _ (kq q_1005 rfl)) (fun _ h9 => h9) rfl dX10_span_126 ?_
        refine lv_iconst (v := (0 : Int32)) hx hb dX10_span_129 (by decide) ?_
        obtain ⟨hi5, h⟩ := gi_at h
        refine va_iald hx hb hK hP 4 0 rfl rfl hi5 dX10_span_130 ?_
        refine lv_i2l hx hb dX10_span_131 rfl ?_
        refine lv_aload_n hx hb dX10_span_132 rfl (lv_at hl 0 rfl) ?_
        refine va_get (D := (dC, dI)) (ci := 9) (v := .ref h_this_read) (C := RX10) (T := TX10) (N := 29) hx hb hts inX10 hown hK hP 0 rfl rfl 19 (by decide) (hts _ (kq q_1005 rfl)) (fun _ h9 => h9) rfl dX10_span_133 ?_
        refine lv_iconst (v := (1 : Int32)) hx hb dX10_span_136 (by decide) ?_
        obtain ⟨hi6, h⟩ := gi_at h
        refine va_iald hx hb hK hP 4 0 rfl rfl hi6 dX10_span_137 ?_
        refine lv_i2l hx hb dX10_span_138 rfl ?_
        refine lv_aload_n hx hb dX10_span_139 rfl (lv_at hl 0 rfl) ?_
        refine va_get (D := (dC, dI)) (ci := 9) (v := .ref h_this_read) (C := RX10) (T := TX10) (N := 29) hx hb hts inX10 hown hK hP 0 rfl rfl 19 (by decide) (hts _ (kq q_1005 rfl)) (fun _ h9 => h9) rfl dX10_span_140 ?_
        refine lv_iconst (v := (2 : Int32)) hx hb dX10_span_143 (by decide) ?_
        obtain ⟨hi7, h⟩ := gi_at h
        refine va_iald hx hb hK hP 4 0 rfl rfl hi7 dX10_span_144 ?_
        refine lv_i2l hx hb dX10_span_145 rfl ?_
        obtain ⟨f_this_spans_8, hc9, h⟩ := bd1_at h
        refine kjV (kV (own := "DateSpansModel") (C := "DateSpansModel") (b := h_this) (As := [.int v1, .long ((f_this_read (0 : Int32).toNatClampNeg).toInt64), .long ((f_this_read (1 : Int32).toNatClampNeg).toInt64), .long ((f_this_read (2 : Int32).toNatClampNeg).toInt64)]) (rest := []) ⟨hx, hb, hml, hown, hts⟩ (kX10_laysSpan l dC dI cI cJ cB h_this h_this_dayAt h_this_secondAt h_this_spans h_this_kept h_this_text h_this_row h_this_read h_this_many h_this_first h_this_lengths h_this_page N v1 ((f_this_read (0 : Int32).toNatClampNeg).toInt64) ((f_this_read (1 : Int32).toNatClampNeg).toInt64) ((f_this_read (2 : Int32).toNatClampNeg).toInt64) i_this j_this f_this_spans f_this_spans_8 hc9 _) (kgV (kq q_1213 rfl) (kq q_1215 rfl) (kq q_27 rfl) (kq q_66 rfl) (kq q_1216 rfl)) yd_X10_laysSpan ⟨Nat.le_of_ble_eq_true rfl, Nat.le_of_ble_eq_true rfl⟩ hN hK hP hD [0, 1] rfl rfl (ci := 9) rfl rfl rfl rfl rfl hl.1 rfl (lv_room (Nat.le_of_ble_eq_true rfl)) dX10_span_146) hP hD hS hA [0, 1] rfl rfl (fun H locs hP hD hS => ?_)
        have hP : va_P (dC, dI) vwCl [cl_X10 h_this h_this_dayAt h_this_secondAt h_this_spans h_this_kept h_this_text h_this_row h_this_read h_this_many h_this_first h_this_lengths h_this_page i_this j_this, (h_this_spans, .inl (cI, 24, .inl f_this_spans_8)), (h_this_text, .inl (cB, 100, .inl f_this_text)), (h_this_row, .inl (cJ, 16, .inr (.inl f_this_row))), (h_this_read, .inl (cI, 3, .inl f_this_read))] H := hP
        have hD : va_D A [cl_X10 h_this h_this_dayAt h_this_secondAt h_this_spans h_this_kept h_this_text h_this_row h_this_read h_this_many h_this_first h_this_lengths h_this_page i_this j_this, (h_this_spans, .inl (cI, 24, .inl f_this_spans_8)), (h_this_text, .inl (cB, 100, .inl f_this_text)), (h_this_row, .inl (cJ, 16, .inr (.inl f_this_row))), (h_this_read, .inl (cI, 3, .inl f_this_read))] := hD
        refine lv_aload_n hx hb dX10_span_149 rfl (lv_at hl 0 rfl) ?_
        refine lv_iload_n hx hb dX10_span_150 rfl (lv_at hl 1 rfl) ?_
        obtain ⟨i_this_10, f_this_row_11, hc12, h⟩ := bd2_at h
        refine kjV (kV (own := "DateSpansModel") (C := "DateSpansModel") (b := h_this) (As := [.int v1]) (rest := []) ⟨hx, hb, hml, hown, hts⟩ (kX10_tellsSpan l dC dI cI cJ cB h_this h_this_dayAt h_this_secondAt h_this_spans h_this_kept h_this_text h_this_row h_this_read h_this_many h_this_first h_this_lengths h_this_page N v1 i_this j_this f_this_spans_8 f_this_row i_this_10 f_this_row_11 hc12 _) (kgV (kq q_1217 rfl) (kq q_1219 rfl) (kq q_28 rfl) (kq q_66 rfl) (kq q_1220 rfl)) yd_X10_tellsSpan ⟨Nat.le_of_ble_eq_true rfl, Nat.le_of_ble_eq_true rfl⟩ hN hK hP hD [0, 1, 3] rfl rfl (ci := 9) rfl rfl rfl rfl rfl hl.1 rfl (lv_room (Nat.le_of_ble_eq_true rfl)) dX10_span_151) hP hD hS hA [0, 1, 3] rfl rfl (fun H locs hP hD hS => ?_)
        have hP : va_P (dC, dI) vwCl [cl_X10 h_this h_this_dayAt h_this_secondAt h_this_spans h_this_kept h_this_text h_this_row h_this_read h_this_many h_this_first h_this_lengths h_this_page i_this_10 j_this, (h_this_spans, .inl (cI, 24, .inl f_this_spans_8)), (h_this_text, .inl (cB, 100, .inl f_this_text)), (h_this_row, .inl (cJ, 16, .inr (.inl f_this_row_11))), (h_this_read, .inl (cI, 3, .inl f_this_read))] H := hP
        have hD : va_D A [cl_X10 h_this h_this_dayAt h_this_secondAt h_this_spans h_this_kept h_this_text h_this_row h_this_read h_this_many h_this_first h_this_lengths h_this_page i_this_10 j_this, (h_this_spans, .inl (cI, 24, .inl f_this_spans_8)), (h_this_text, .inl (cB, 100, .inl f_this_text)), (h_this_row, .inl (cJ, 16, .inr (.inl f_this_row_11))), (h_this_read, .inl (cI, 3, .inl f_this_read))] := hD
        refine lv_aload_n hx hb dX10_span_154 rfl (lv_at hl 0 rfl) ?_
        refine va_get (D := (dC, dI)) (ci := 9) (v := .ref h_this_read) (C := RX10) (T := TX10) (N := 29) hx hb hts inX10 hown hK hP 0 rfl rfl 19 (by decide) (hts _ (kq q_1005 rfl)) (fun _ h9 => h9) rfl dX10_span_155 ?_
        refine lv_iconst (v := (0 : Int32)) hx hb dX10_span_158 (by decide) ?_
        obtain ⟨hi13, h⟩ := gi_at h
        refine va_iald hx hb hK hP 4 0 rfl rfl hi13 dX10_span_159 ?_
        obtain ⟨rfl, rfl, rfl, rfl, rfl⟩ := pj5 h
        exact hEnd _ _ _ _ hP hS dX10_span_160 rfl
      have h := ite_t c4 h
      refine lv_iconst (v := (-1 : Int32)) hx hb dX10_span_121 (by decide) ?_
      obtain ⟨rfl, rfl, rfl, rfl, rfl⟩ := pj5 h
      exact hEnd _ _ _ _ hP hS dX10_span_122 rfl
    have h := ite_f c1 h
    refine lv_bipush (v := (-21 : Int32)) hx hb dX10_span_106 (by decide) ?_
    refine lv_aload_n hx hb dX10_span_108 rfl (lv_at hl 0 rfl) ?_
    refine va_get (D := (dC, dI)) (ci := 9) (v := .int (i_this 18)) (C := RX10) (T := TX10) (N := 29) hx hb hts inX10 hown hK hP 0 rfl rfl 18 (by decide) (hts _ (kq q_1004 rfl)) (fun _ h9 => h9) rfl dX10_span_109 ?_
    refine lv_isub hx hb dX10_span_112 ?_
    obtain ⟨rfl, rfl, rfl, rfl, rfl⟩ := pj5 h
    exact hEnd _ _ _ _ hP hS dX10_span_113 rfl
  have JN_71 : ∀ (v1 : Int32) (i_this : Nat → Int32) (f_this_spans : Nat → Int32) (f_this_row : Nat → Int64) (f_this_read : Nat → Int32) (ls : Array Slot) (H : Heap) (locs : List Loc), (fX10_span_j71 N j_this f_this_text) v1 i_this f_this_spans f_this_row f_this_read = some (r, o_i_this, o_f_this_spans, o_f_this_row, o_f_this_read) → lv_has ls 3 [(0, .ref h_this), (1, .int v1)] → va_P (dC, dI) vwCl [cl_X10 h_this h_this_dayAt h_this_secondAt h_this_spans h_this_kept h_this_text h_this_row h_this_read h_this_many h_this_first h_this_lengths h_this_page i_this j_this, (h_this_spans, .inl (cI, 24, .inl f_this_spans)), (h_this_text, .inl (cB, 100, .inl f_this_text)), (h_this_row, .inl (cJ, 16, .inr (.inl f_this_row))), (h_this_read, .inl (cI, 3, .inl f_this_read))] H → va_D A [cl_X10 h_this h_this_dayAt h_this_secondAt h_this_spans h_this_kept h_this_text h_this_row h_this_read h_this_many h_this_first h_this_lengths h_this_page i_this j_this, (h_this_spans, .inl (cI, 24, .inl f_this_spans)), (h_this_text, .inl (cB, 100, .inl f_this_text)), (h_this_row, .inl (cJ, 16, .inr (.inl f_this_row))), (h_this_read, .inl (cI, 3, .inl f_this_read))] → va_S A s.heap H locs → W p l e (kR 6 130) s m args below meth c H locs 0 0 Q (F0 m 71 ls []) := by
    intro v1 i_this f_this_spans f_this_row f_this_read ls H locs h hl hP hD hS
    unfold fX10_span_j71 at h
    refine lv_aload_n hx hb dX10_span_71 rfl (lv_at hl 0 rfl) ?_
    refine va_get (D := (dC, dI)) (ci := 9) (v := .int (i_this 18)) (C := RX10) (T := TX10) (N := 29) hx hb hts inX10 hown hK hP 0 rfl rfl 18 (by decide) (hts _ (kq q_1004 rfl)) (fun _ h9 => h9) rfl dX10_span_72 ?_
    refine lv_iconst (v := (-1 : Int32)) hx hb dX10_span_75 (by decide) ?_
    refine lv_icmp_ne (tgt := 98) hx hb dX10_span_76 (by decide) (fun c14 => ?_) (fun c14 => ?_)
    · have h := ite_f c14 h
      exact JN_98 _ _ _ _ _ _ _ _ h (lv_sub hl [0, 1] rfl) hP hD hS
    have h := ite_t c14 h
    refine lv_aload_n hx hb dX10_span_79 rfl (lv_at hl 0 rfl) ?_
    refine va_get (D := (dC, dI)) (ci := 9) (v := .int (i_this 17)) (C := RX10) (T := TX10) (N := 29) hx hb hts inX10 hown hK hP 0 rfl rfl 17 (by decide) (hts _ (kq q_1003 rfl)) (fun _ h9 => h9) rfl dX10_span_80 ?_
    refine lv_aload_n hx hb dX10_span_83 rfl (lv_at hl 0 rfl) ?_
    refine va_get (D := (dC, dI)) (ci := 9) (v := .int (i_this 16)) (C := RX10) (T := TX10) (N := 29) hx hb hts inX10 hown hK hP 0 rfl rfl 16 (by decide) (hts _ (kq q_1002 rfl)) (fun _ h9 => h9) rfl dX10_span_84 ?_
    refine lv_icmp_ge (tgt := 98) hx hb dX10_span_87 (by decide) (fun c15 => ?_) (fun c15 => ?_)
    · have h := ite_t c15 h
      exact JN_98 _ _ _ _ _ _ _ _ h (lv_sub hl [0, 1] rfl) hP hD hS
    have h := ite_f c15 h
    refine lv_aload_n hx hb dX10_span_90 rfl (lv_at hl 0 rfl) ?_
    refine lv_aload_n hx hb dX10_span_91 rfl (lv_at hl 0 rfl) ?_
    refine va_get (D := (dC, dI)) (ci := 9) (v := .int (i_this 17)) (C := RX10) (T := TX10) (N := 29) hx hb hts inX10 hown hK hP 0 rfl rfl 17 (by decide) (hts _ (kq q_1003 rfl)) (fun _ h9 => h9) rfl dX10_span_92 ?_
    obtain ⟨i_this_16, hc17, h⟩ := bd1_at h
    refine kjV (kV (own := "DateSpansModel") (C := "DateSpansModel") (b := h_this) (As := [.int (i_this 17)]) (rest := []) ⟨hx, hb, hml, hown, hts⟩ (kX10_fault l dC dI cI cJ cB h_this h_this_dayAt h_this_secondAt h_this_spans h_this_kept h_this_text h_this_row h_this_read h_this_many h_this_first h_this_lengths h_this_page N (i_this 17) i_this j_this i_this_16 hc17 _) (kgV (kq q_1105 rfl) (kq q_1107 rfl) (kq q_21 rfl) (kq q_66 rfl) (kq q_1108 rfl)) yd_X10_fault ⟨Nat.le_of_ble_eq_true rfl, Nat.le_of_ble_eq_true rfl⟩ hN hK hP hD [0] rfl rfl (ci := 9) rfl rfl rfl rfl rfl hl.1 rfl (lv_room (Nat.le_of_ble_eq_true rfl)) dX10_span_95) hP hD hS hA [0] rfl rfl (fun H locs hP hD hS => ?_)
    have hP : va_P (dC, dI) vwCl [cl_X10 h_this h_this_dayAt h_this_secondAt h_this_spans h_this_kept h_this_text h_this_row h_this_read h_this_many h_this_first h_this_lengths h_this_page i_this_16 j_this, (h_this_spans, .inl (cI, 24, .inl f_this_spans)), (h_this_text, .inl (cB, 100, .inl f_this_text)), (h_this_row, .inl (cJ, 16, .inr (.inl f_this_row))), (h_this_read, .inl (cI, 3, .inl f_this_read))] H := hP
    have hD : va_D A [cl_X10 h_this h_this_dayAt h_this_secondAt h_this_spans h_this_kept h_this_text h_this_row h_this_read h_this_many h_this_first h_this_lengths h_this_page i_this_16 j_this, (h_this_spans, .inl (cI, 24, .inl f_this_spans)), (h_this_text, .inl (cB, 100, .inl f_this_text)), (h_this_row, .inl (cJ, 16, .inr (.inl f_this_row))), (h_this_read, .inl (cI, 3, .inl f_this_read))] := hD
    exact JN_98 _ _ _ _ _ _ _ _ h (lv_sub hl [0, 1] rfl) hP hD hS
  have LP_35 : ∀ n_35 : Nat, ∀ (v1 : Int32) (v2 : Int32) (i_this : Nat → Int32) (f_this_spans : Nat → Int32) (f_this_row : Nat → Int64) (f_this_read : Nat → Int32) (ls : Array Slot) (H : Heap) (locs : List Loc), fX10_span_l35 N j_this f_this_text n_35 v1 v2 i_this f_this_spans f_this_row f_this_read = some (r, o_i_this, o_f_this_spans, o_f_this_row, o_f_this_read) → lv_has ls 3 [(0, .ref h_this), (1, .int v1), (2, .int v2)] → va_P (dC, dI) vwCl [cl_X10 h_this h_this_dayAt h_this_secondAt h_this_spans h_this_kept h_this_text h_this_row h_this_read h_this_many h_this_first h_this_lengths h_this_page i_this j_this, (h_this_spans, .inl (cI, 24, .inl f_this_spans)), (h_this_text, .inl (cB, 100, .inl f_this_text)), (h_this_row, .inl (cJ, 16, .inr (.inl f_this_row))), (h_this_read, .inl (cI, 3, .inl f_this_read))] H → va_D A [cl_X10 h_this h_this_dayAt h_this_secondAt h_this_spans h_this_kept h_this_text h_this_row h_this_read h_this_many h_this_first h_this_lengths h_this_page i_this j_this, (h_this_spans, .inl (cI, 24, .inl f_this_spans)), (h_this_text, .inl (cB, 100, .inl f_this_text)), (h_this_row, .inl (cJ, 16, .inr (.inl f_this_row))), (h_this_read, .inl (cI, 3, .inl f_this_read))] → va_S A s.heap H locs → W p l e (kR 6 130) s m args below meth c H locs 0 0 Q (F0 m 35 ls []) := by
    intro n_35
    induction n_35 with
    | zero =>
      intro v1 v2 i_this f_this_spans f_this_row f_this_read ls H locs h hl hP hD hS
      rw [fX10_span_l35_0] at h; cases h
    | succ n_35 ih_35 =>
      intro v1 v2 i_this f_this_spans f_this_row f_this_read ls H locs h hl hP hD hS
      rw [fX10_span_l35_s] at h
      refine lv_aload_n hx hb dX10_span_35 rfl (lv_at hl 0 rfl) ?_
      refine va_get (D := (dC, dI)) (ci := 9) (v := .int (i_this 18)) (C := RX10) (T := TX10) (N := 29) hx hb hts inX10 hown hK hP 0 rfl rfl 18 (by decide) (hts _ (kq q_1004 rfl)) (fun _ h9 => h9) rfl dX10_span_36 ?_
      refine lv_iconst (v := (-1 : Int32)) hx hb dX10_span_39 (by decide) ?_
      refine lv_icmp_ne (tgt := 71) hx hb dX10_span_40 (by decide) (fun c18 => ?_) (fun c18 => ?_)
      · have h := ite_f c18 h
        exact JN_71 _ _ _ _ _ _ _ _ h (lv_sub hl [0, 1] rfl) hP hD hS
      have h := ite_t c18 h
      refine lv_aload_n hx hb dX10_span_43 rfl (lv_at hl 0 rfl) ?_
      refine va_get (D := (dC, dI)) (ci := 9) (v := .int (i_this 17)) (C := RX10) (T := TX10) (N := 29) hx hb hts inX10 hown hK hP 0 rfl rfl 17 (by decide) (hts _ (kq q_1003 rfl)) (fun _ h9 => h9) rfl dX10_span_44 ?_
      refine lv_aload_n hx hb dX10_span_47 rfl (lv_at hl 0 rfl) ?_
      refine va_get (D := (dC, dI)) (ci := 9) (v := .int (i_this 16)) (C := RX10) (T := TX10) (N := 29) hx hb hts inX10 hown hK hP 0 rfl rfl 16 (by decide) (hts _ (kq q_1002 rfl)) (fun _ h9 => h9) rfl dX10_span_48 ?_
      refine lv_icmp_ge (tgt := 71) hx hb dX10_span_51 (by decide) (fun c19 => ?_) (fun c19 => ?_)
      · have h := ite_t c19 h
        exact JN_71 _ _ _ _ _ _ _ _ h (lv_sub hl [0, 1] rfl) hP hD hS
      have h := ite_f c19 h
      refine lv_iload_n hx hb dX10_span_54 rfl (lv_at hl 2 rfl) ?_
      refine lv_bipush (v := (6 : Int32)) hx hb dX10_span_55 (by decide) ?_
      refine lv_icmp_ge (tgt := 71) hx hb dX10_span_57 (by decide) (fun c20 => ?_) (fun c20 => ?_)
      · have h := ite_t c20 h
        exact JN_71 _ _ _ _ _ _ _ _ h (lv_sub hl [0, 1] rfl) hP hD hS
      have h := ite_f c20 h
      refine lv_aload_n hx hb dX10_span_60 rfl (lv_at hl 0 rfl) ?_
      refine lv_iload_n hx hb dX10_span_61 rfl (lv_at hl 2 rfl) ?_
      refine lv_iconst (v := (1 : Int32)) hx hb dX10_span_62 (by decide) ?_
      refine lv_iadd hx hb dX10_span_63 ?_
      obtain ⟨r21, i_this_22, f_this_read_23, hc24, h⟩ := bd3_at h
      refine kjI (kVs hG hS hA (own := "DateSpansModel") (C := "DateSpansModel") (b := h_this) (As := [.int (v2 + (1 : Int32))]) (rest := []) ⟨hx, hb, hml, hown, hts⟩ (kX10_readsPart l aK aV dC dI cI cJ cB h_this h_this_dayAt h_this_secondAt h_this_spans h_this_kept h_this_text h_this_row h_this_read h_this_many h_this_first h_this_lengths h_this_page N (v2 + (1 : Int32)) i_this j_this f_this_text f_this_read r21 i_this_22 f_this_read_23 hc24 _) (kgV (kq q_1157 rfl) (kq q_1159 rfl) (kq q_26 rfl) (kq q_66 rfl) (kq q_1160 rfl)) yd_X10_readsPart ⟨Nat.le_of_ble_eq_true rfl, Nat.le_of_ble_eq_true rfl⟩ hN hK hP hD [0, 2, 4] rfl rfl (ci := 9) rfl rfl rfl rfl rfl hl.1 rfl (lv_room (Nat.le_of_ble_eq_true rfl)) dX10_span_64) hP hD hS hA [0, 2, 4] rfl rfl (fun H locs hP hD hS => ?_)
      have hP : va_P (dC, dI) vwCl [cl_X10 h_this h_this_dayAt h_this_secondAt h_this_spans h_this_kept h_this_text h_this_row h_this_read h_this_many h_this_first h_this_lengths h_this_page i_this_22 j_this, (h_this_spans, .inl (cI, 24, .inl f_this_spans)), (h_this_text, .inl (cB, 100, .inl f_this_text)), (h_this_row, .inl (cJ, 16, .inr (.inl f_this_row))), (h_this_read, .inl (cI, 3, .inl f_this_read_23))] H := hP
      have hD : va_D A [cl_X10 h_this h_this_dayAt h_this_secondAt h_this_spans h_this_kept h_this_text h_this_row h_this_read h_this_many h_this_first h_this_lengths h_this_page i_this_22 j_this, (h_this_spans, .inl (cI, 24, .inl f_this_spans)), (h_this_text, .inl (cB, 100, .inl f_this_text)), (h_this_row, .inl (cJ, 16, .inr (.inl f_this_row))), (h_this_read, .inl (cI, 3, .inl f_this_read_23))] := hD
      refine lv_istore_n (lv' := [(2, .int r21), (0, .ref h_this), (1, .int v1)]) hx hb dX10_span_67 rfl hl (by decide) rfl (fun ls hl => ?_)
      refine lv_goto (tgt := 35) hx hb dX10_span_68 (by decide) ?_
      exact ih_35 _ _ _ _ _ _ _ _ _ h (lv_sub hl [1, 2, 0] rfl) hP hD hS
  have LP_11 : ∀ n_11 : Nat, ∀ (v1 : Int32) (v2 : Int32) (i_this : Nat → Int32) (f_this_spans : Nat → Int32) (f_this_row : Nat → Int64) (f_this_read : Nat → Int32) (ls : Array Slot) (H : Heap) (locs : List Loc), fX10_span_l11 N j_this f_this_text n_11 v1 v2 i_this f_this_spans f_this_row f_this_read = some (r, o_i_this, o_f_this_spans, o_f_this_row, o_f_this_read) → lv_has ls 3 [(0, .ref h_this), (1, .int v1), (2, .int v2)] → va_P (dC, dI) vwCl [cl_X10 h_this h_this_dayAt h_this_secondAt h_this_spans h_this_kept h_this_text h_this_row h_this_read h_this_many h_this_first h_this_lengths h_this_page i_this j_this, (h_this_spans, .inl (cI, 24, .inl f_this_spans)), (h_this_text, .inl (cB, 100, .inl f_this_text)), (h_this_row, .inl (cJ, 16, .inr (.inl f_this_row))), (h_this_read, .inl (cI, 3, .inl f_this_read))] H → va_D A [cl_X10 h_this h_this_dayAt h_this_secondAt h_this_spans h_this_kept h_this_text h_this_row h_this_read h_this_many h_this_first h_this_lengths h_this_page i_this j_this, (h_this_spans, .inl (cI, 24, .inl f_this_spans)), (h_this_text, .inl (cB, 100, .inl f_this_text)), (h_this_row, .inl (cJ, 16, .inr (.inl f_this_row))), (h_this_read, .inl (cI, 3, .inl f_this_read))] → va_S A s.heap H locs → W p l e (kR 6 130) s m args below meth c H locs 0 0 Q (F0 m 11 ls []) := by
    intro n_11
    induction n_11 with
    | zero =>
      intro v1 v2 i_this f_this_spans f_this_row f_this_read ls H locs h hl hP hD hS
      rw [fX10_span_l11_0] at h; cases h
    | succ n_11 ih_11 =>
      intro v1 v2 i_this f_this_spans f_this_row f_this_read ls H locs h hl hP hD hS
      rw [fX10_span_l11_s] at h
      refine lv_iload_n hx hb dX10_span_11 rfl (lv_at hl 2 rfl) ?_
      refine lv_iconst (v := (3 : Int32)) hx hb dX10_span_12 (by decide) ?_
      refine lv_icmp_ge (tgt := 29) hx hb dX10_span_13 (by decide) (fun c25 => ?_) (fun c25 => ?_)
      · have h := ite_t c25 h
        refine lv_aload_n hx hb dX10_span_29 rfl (lv_at hl 0 rfl) ?_
        refine lv_iconst (v := (0 : Int32)) hx hb dX10_span_30 (by decide) ?_
        obtain ⟨r26, i_this_27, f_this_read_28, hc29, h⟩ := bd3_at h
        refine kjI (kVs hG hS hA (own := "DateSpansModel") (C := "DateSpansModel") (b := h_this) (As := [.int (0 : Int32)]) (rest := []) ⟨hx, hb, hml, hown, hts⟩ (kX10_readsPart l aK aV dC dI cI cJ cB h_this h_this_dayAt h_this_secondAt h_this_spans h_this_kept h_this_text h_this_row h_this_read h_this_many h_this_first h_this_lengths h_this_page N (0 : Int32) i_this j_this f_this_text f_this_read r26 i_this_27 f_this_read_28 hc29 _) (kgV (kq q_1157 rfl) (kq q_1159 rfl) (kq q_26 rfl) (kq q_66 rfl) (kq q_1160 rfl)) yd_X10_readsPart ⟨Nat.le_of_ble_eq_true rfl, Nat.le_of_ble_eq_true rfl⟩ hN hK hP hD [0, 2, 4] rfl rfl (ci := 9) rfl rfl rfl rfl rfl hl.1 rfl (lv_room (Nat.le_of_ble_eq_true rfl)) dX10_span_31) hP hD hS hA [0, 2, 4] rfl rfl (fun H locs hP hD hS => ?_)
        have hP : va_P (dC, dI) vwCl [cl_X10 h_this h_this_dayAt h_this_secondAt h_this_spans h_this_kept h_this_text h_this_row h_this_read h_this_many h_this_first h_this_lengths h_this_page i_this_27 j_this, (h_this_spans, .inl (cI, 24, .inl f_this_spans)), (h_this_text, .inl (cB, 100, .inl f_this_text)), (h_this_row, .inl (cJ, 16, .inr (.inl f_this_row))), (h_this_read, .inl (cI, 3, .inl f_this_read_28))] H := hP
        have hD : va_D A [cl_X10 h_this h_this_dayAt h_this_secondAt h_this_spans h_this_kept h_this_text h_this_row h_this_read h_this_many h_this_first h_this_lengths h_this_page i_this_27 j_this, (h_this_spans, .inl (cI, 24, .inl f_this_spans)), (h_this_text, .inl (cB, 100, .inl f_this_text)), (h_this_row, .inl (cJ, 16, .inr (.inl f_this_row))), (h_this_read, .inl (cI, 3, .inl f_this_read_28))] := hD
        refine lv_istore_n (lv' := [(2, .int r26), (0, .ref h_this), (1, .int v1)]) hx hb dX10_span_34 rfl hl (by decide) rfl (fun ls hl => ?_)
        exact LP_35 N _ _ _ _ _ _ _ _ _ h (lv_sub hl [1, 2, 0] rfl) hP hD hS
      have h := ite_f c25 h
      refine lv_aload_n hx hb dX10_span_16 rfl (lv_at hl 0 rfl) ?_
      refine va_get (D := (dC, dI)) (ci := 9) (v := .ref h_this_read) (C := RX10) (T := TX10) (N := 29) hx hb hts inX10 hown hK hP 0 rfl rfl 19 (by decide) (hts _ (kq q_1005 rfl)) (fun _ h9 => h9) rfl dX10_span_17 ?_
      refine lv_iload_n hx hb dX10_span_20 rfl (lv_at hl 2 rfl) ?_
      refine lv_iconst (v := (0 : Int32)) hx hb dX10_span_21 (by decide) ?_
      obtain ⟨hi30, h⟩ := gi_at h
      refine va_iast hx hb hK hP hD hS 4 0 rfl rfl hi30 dX10_span_22 (fun H locs hP hD hS => ?_)
      have hP : va_P (dC, dI) vwCl [cl_X10 h_this h_this_dayAt h_this_secondAt h_this_spans h_this_kept h_this_text h_this_row h_this_read h_this_many h_this_first h_this_lengths h_this_page i_this j_this, (h_this_spans, .inl (cI, 24, .inl f_this_spans)), (h_this_text, .inl (cB, 100, .inl f_this_text)), (h_this_row, .inl (cJ, 16, .inr (.inl f_this_row))), (h_this_read, .inl (cI, 3, .inl (upd f_this_read v2.toNatClampNeg (0 : Int32))))] H := hP
      have hD : va_D A [cl_X10 h_this h_this_dayAt h_this_secondAt h_this_spans h_this_kept h_this_text h_this_row h_this_read h_this_many h_this_first h_this_lengths h_this_page i_this j_this, (h_this_spans, .inl (cI, 24, .inl f_this_spans)), (h_this_text, .inl (cB, 100, .inl f_this_text)), (h_this_row, .inl (cJ, 16, .inr (.inl f_this_row))), (h_this_read, .inl (cI, 3, .inl (upd f_this_read v2.toNatClampNeg (0 : Int32))))] := hD
      obtain ⟨z31, ez31⟩ : ∃ y : Int32, y = (v2 + (1 : Int32)) := ⟨_, rfl⟩
      have h := nm_at ez31 h
      refine lv_iinc (v := z31) (lv' := [(2, .int z31), (0, .ref h_this), (1, .int v1)]) hx hb dX10_span_23 hl (k := 2) rfl (by rw [ez31]; rfl) (by decide) rfl (fun ls hl => ?_)
      refine lv_goto (tgt := 11) hx hb dX10_span_26 (by decide) ?_
      exact ih_11 _ _ _ _ _ _ _ _ _ h (lv_sub hl [1, 2, 0] rfl) hP hD hS
  have h := hf
  unfold fX10_span at h
  refine lv_aload_n hx hb dX10_span_0 rfl (lv_at hl 0 rfl) ?_
  refine lv_iconst (v := (0 : Int32)) hx hb dX10_span_1 (by decide) ?_
  refine va_put (D := (dC, dI)) (ci := 9) (v := .int (0 : Int32)) (ty := .int) (C := RX10) (T := TX10) (N := 29) hx hb hts inX10 tyX10 tyX10_ok nmX10 hown hK hP hD hS 0 rfl rfl 9 (by decide) (hts _ (kq q_995 rfl)) (fun _ h9 => h9) rfl (by decide +kernel) rfl rfl (Nat.le_of_ble_eq_true rfl) dX10_span_2 (fun H locs hP hD hS => ?_)
  have hP : va_P (dC, dI) vwCl [(h_this, .inr (9, [.ref h_this_dayAt, .ref h_this_secondAt, .ref h_this_spans, .ref h_this_kept, .int (i_this 4), .ref h_this_text, .int (i_this 6), .ref h_this_row, .int (i_this 8), .int (0 : Int32), .int (i_this 10), .int (i_this 11), .int (i_this 12), .int (i_this 13), .int (i_this 14), .int (i_this 15), .int (i_this 16), .int (i_this 17), .int (i_this 18), .ref h_this_read, .long (j_this 20), .ref h_this_many, .ref h_this_first, .ref h_this_lengths, .int (i_this 24), .long (j_this 25), .long (j_this 26), .ref h_this_page, .int (i_this 28)])), (h_this_spans, .inl (cI, 24, .inl f_this_spans)), (h_this_text, .inl (cB, 100, .inl f_this_text)), (h_this_row, .inl (cJ, 16, .inr (.inl f_this_row))), (h_this_read, .inl (cI, 3, .inl f_this_read))] H := hP
  have hD : va_D A [(h_this, .inr (9, [.ref h_this_dayAt, .ref h_this_secondAt, .ref h_this_spans, .ref h_this_kept, .int (i_this 4), .ref h_this_text, .int (i_this 6), .ref h_this_row, .int (i_this 8), .int (0 : Int32), .int (i_this 10), .int (i_this 11), .int (i_this 12), .int (i_this 13), .int (i_this 14), .int (i_this 15), .int (i_this 16), .int (i_this 17), .int (i_this 18), .ref h_this_read, .long (j_this 20), .ref h_this_many, .ref h_this_first, .ref h_this_lengths, .int (i_this 24), .long (j_this 25), .long (j_this 26), .ref h_this_page, .int (i_this 28)])), (h_this_spans, .inl (cI, 24, .inl f_this_spans)), (h_this_text, .inl (cB, 100, .inl f_this_text)), (h_this_row, .inl (cJ, 16, .inr (.inl f_this_row))), (h_this_read, .inl (cI, 3, .inl f_this_read))] := hD
  refine lv_aload_n hx hb dX10_span_5 rfl (lv_at hl 0 rfl) ?_
  have hP : va_P (dC, dI) vwCl [cl_X10 h_this h_this_dayAt h_this_secondAt h_this_spans h_this_kept h_this_text h_this_row h_this_read h_this_many h_this_first h_this_lengths h_this_page (upd i_this 9 (0 : Int32)) j_this, (h_this_spans, .inl (cI, 24, .inl f_this_spans)), (h_this_text, .inl (cB, 100, .inl f_this_text)), (h_this_row, .inl (cJ, 16, .inr (.inl f_this_row))), (h_this_read, .inl (cI, 3, .inl f_this_read))] H := hP
  have hD : va_D A [cl_X10 h_this h_this_dayAt h_this_secondAt h_this_spans h_this_kept h_this_text h_this_row h_this_read h_this_many h_this_first h_this_lengths h_this_page (upd i_this 9 (0 : Int32)) j_this, (h_this_spans, .inl (cI, 24, .inl f_this_spans)), (h_this_text, .inl (cB, 100, .inl f_this_text)), (h_this_row, .inl (cJ, 16, .inr (.inl f_this_row))), (h_this_read, .inl (cI, 3, .inl f_this_read))] := hD
  obtain ⟨i_this_32, hc33, h⟩ := bd1_at h
  refine kjV (kV (own := "DateSpansModel") (C := "DateSpansModel") (b := h_this) (As := []) (rest := []) ⟨hx, hb, hml, hown, hts⟩ (kX10_begin l dC dI cI cJ cB h_this h_this_dayAt h_this_secondAt h_this_spans h_this_kept h_this_text h_this_row h_this_read h_this_many h_this_first h_this_lengths h_this_page N (upd i_this 9 (0 : Int32)) j_this i_this_32 hc33 _) (kgV (kq q_1093 rfl) (kq q_1095 rfl) (kq q_18 rfl) (kq q_66 rfl) (kq q_1096 rfl)) yd_X10_begin ⟨Nat.le_of_ble_eq_true rfl, Nat.le_of_ble_eq_true rfl⟩ hN hK hP hD [0] rfl rfl (ci := 9) rfl rfl rfl rfl rfl hl.1 rfl (lv_room (Nat.le_of_ble_eq_true rfl)) dX10_span_6) hP hD hS hA [0] rfl rfl (fun H locs hP hD hS => ?_)
  have hP : va_P (dC, dI) vwCl [cl_X10 h_this h_this_dayAt h_this_secondAt h_this_spans h_this_kept h_this_text h_this_row h_this_read h_this_many h_this_first h_this_lengths h_this_page i_this_32 j_this, (h_this_spans, .inl (cI, 24, .inl f_this_spans)), (h_this_text, .inl (cB, 100, .inl f_this_text)), (h_this_row, .inl (cJ, 16, .inr (.inl f_this_row))), (h_this_read, .inl (cI, 3, .inl f_this_read))] H := hP
  have hD : va_D A [cl_X10 h_this h_this_dayAt h_this_secondAt h_this_spans h_this_kept h_this_text h_this_row h_this_read h_this_many h_this_first h_this_lengths h_this_page i_this_32 j_this, (h_this_spans, .inl (cI, 24, .inl f_this_spans)), (h_this_text, .inl (cB, 100, .inl f_this_text)), (h_this_row, .inl (cJ, 16, .inr (.inl f_this_row))), (h_this_read, .inl (cI, 3, .inl f_this_read))] := hD
  refine lv_iconst (v := (0 : Int32)) hx hb dX10_span_9 (by decide) ?_
  refine lv_istore_n (lv' := [(2, .int (0 : Int32)), (0, .ref h_this), (1, .int p1)]) hx hb dX10_span_10 rfl hl (by decide) rfl (fun ls hl => ?_)
  exact LP_11 N _ _ _ _ _ _ _ _ _ h (lv_sub hl [1, 2, 0] rfl) hP hD hS
noncomputable def fX10_writesPart_l48 (N : Nat) (j_this : Nat → Int64) (n : Nat) : Int32 → Int32 → Int32 → (Nat → Int32) → (Nat → Int32) → Option ((Nat → Int32) × (Nat → Int32)) := Nat.rec (motive := fun _ => Int32 → Int32 → Int32 → (Nat → Int32) → (Nat → Int32) → Option ((Nat → Int32) × (Nat → Int32))) (fun _ _ _ _ _ => none) (fun _ K_48 v2 v3 v4 i_this f_this_page => (if v4 ≤ (0 : Int32) then (bd1 (fX10_letter N v2) fun r2 => (bd2 (fX10_writes N r2 i_this j_this f_this_page) fun i_this_4 f_this_page_5 => (some (i_this_4, f_this_page_5)))) else (gn v4 (bd2 (fX10_writes N ((48 : Int32) + ((v3 / v4) - (v3 / v4) / (10 : Int32) * (10 : Int32))) i_this j_this f_this_page) fun i_this_8 f_this_page_9 => (nm (v4 / (10 : Int32)) fun z11 => (K_48 v2 v3 z11 i_this_8 f_this_page_9)))))) n
theorem fX10_writesPart_l48_s (N : Nat) (j_this : Nat → Int64) (n : Nat) (v2 : Int32) (v3 : Int32) (v4 : Int32) (i_this : Nat → Int32) (f_this_page : Nat → Int32) : fX10_writesPart_l48 N j_this (n + 1) v2 v3 v4 i_this f_this_page = (if v4 ≤ (0 : Int32) then (bd1 (fX10_letter N v2) fun r2 => (bd2 (fX10_writes N r2 i_this j_this f_this_page) fun i_this_4 f_this_page_5 => (some (i_this_4, f_this_page_5)))) else (gn v4 (bd2 (fX10_writes N ((48 : Int32) + ((v3 / v4) - (v3 / v4) / (10 : Int32) * (10 : Int32))) i_this j_this f_this_page) fun i_this_8 f_this_page_9 => (nm (v4 / (10 : Int32)) fun z11 => ((fX10_writesPart_l48 N j_this n) v2 v3 z11 i_this_8 f_this_page_9))))) := rfl
theorem fX10_writesPart_l48_0 (N : Nat) (j_this : Nat → Int64) (v2 : Int32) (v3 : Int32) (v4 : Int32) (i_this : Nat → Int32) (f_this_page : Nat → Int32) : fX10_writesPart_l48 N j_this 0 v2 v3 v4 i_this f_this_page = none := rfl
noncomputable def fX10_writesPart_l29 (N : Nat) (j_this : Nat → Int64) (n : Nat) : Int32 → Int32 → Int32 → (Nat → Int32) → (Nat → Int32) → Option ((Nat → Int32) × (Nat → Int32)) := Nat.rec (motive := fun _ => Int32 → Int32 → Int32 → (Nat → Int32) → (Nat → Int32) → Option ((Nat → Int32) × (Nat → Int32))) (fun _ _ _ _ _ => none) (fun _ K_29 v2 v3 v4 i_this f_this_page => (if v3 < (v4 * (10 : Int32)) then (fX10_writesPart_l48 N j_this N v2 v3 v4 i_this f_this_page) else (nm (v4 * (10 : Int32)) fun z13 => (K_29 v2 v3 z13 i_this f_this_page)))) n
theorem fX10_writesPart_l29_s (N : Nat) (j_this : Nat → Int64) (n : Nat) (v2 : Int32) (v3 : Int32) (v4 : Int32) (i_this : Nat → Int32) (f_this_page : Nat → Int32) : fX10_writesPart_l29 N j_this (n + 1) v2 v3 v4 i_this f_this_page = (if v3 < (v4 * (10 : Int32)) then (fX10_writesPart_l48 N j_this N v2 v3 v4 i_this f_this_page) else (nm (v4 * (10 : Int32)) fun z13 => ((fX10_writesPart_l29 N j_this n) v2 v3 z13 i_this f_this_page))) := rfl
theorem fX10_writesPart_l29_0 (N : Nat) (j_this : Nat → Int64) (v2 : Int32) (v3 : Int32) (v4 : Int32) (i_this : Nat → Int32) (f_this_page : Nat → Int32) : fX10_writesPart_l29 N j_this 0 v2 v3 v4 i_this f_this_page = none := rfl
noncomputable def fX10_writesPart_j15 (N : Nat) (j_this : Nat → Int64) (v1 : Int32) (v2 : Int32) (i_this : Nat → Int32) (f_this_page : Nat → Int32) : Option ((Nat → Int32) × (Nat → Int32)) := (if (0 : Int32) ≤ v1 then (fX10_writesPart_l29 N j_this N v2 v1 (1 : Int32) i_this f_this_page) else (nm (-v1) fun z15 => (fX10_writesPart_l29 N j_this N v2 z15 (1 : Int32) i_this f_this_page)))
noncomputable def fX10_writesPart (N : Nat) (p1 : Int32) (p2 : Int32) (i_this : Nat → Int32) (j_this : Nat → Int64) (f_this_page : Nat → Int32) : Option ((Nat → Int32) × (Nat → Int32)) := (if p1 = (0 : Int32) then (some (i_this, f_this_page)) else (if (0 : Int32) ≤ p1 then (fX10_writesPart_j15 N j_this p1 p2 i_this f_this_page) else (bd2 (fX10_writes N (45 : Int32) i_this j_this f_this_page) fun i_this_18 f_this_page_19 => (fX10_writesPart_j15 N j_this p1 p2 i_this_18 f_this_page_19))))
set_option maxHeartbeats 4000000 in
set_option maxRecDepth 100000 in
theorem kX10_writesPart (l : Launch) (aK aV : Nat) (dC : Nat → ClassId) (dI : Nat → Nat → Nat) (cI cJ cB : ClassId) (h_this h_this_dayAt h_this_secondAt h_this_spans h_this_kept h_this_text h_this_row h_this_read h_this_many h_this_first h_this_lengths h_this_page : Nat) (N : Nat) (p1 : Int32) (p2 : Int32) (i_this : Nat → Int32) (j_this : Nat → Int64) (f_this_page : Nat → Int32) (o_i_this : Nat → Int32) (o_f_this_page : Nat → Int32) (hf : fX10_writesPart N p1 p2 i_this j_this f_this_page = some (o_i_this, o_f_this_page)) : MVs l yX10_writesPart (kws yX10_writesPart cX10_writesPart 5 (none)) (kR 5 105) aK aV (dC, dI) (kT cI cJ cB) [.ref h_this, .int p1, .int p2] [cl_X10 h_this h_this_dayAt h_this_secondAt h_this_spans h_this_kept h_this_text h_this_row h_this_read h_this_many h_this_first h_this_lengths h_this_page i_this j_this, (h_this_page, .inl (cB, 128, .inl f_this_page))] [cl_X10 h_this h_this_dayAt h_this_secondAt h_this_spans h_this_kept h_this_text h_this_row h_this_read h_this_many h_this_first h_this_lengths h_this_page o_i_this j_this, (h_this_page, .inl (cB, 128, .inl o_f_this_page))] := by
  refine MVs.of (cc := cX10_writesPart) (maxL := 5) (by decide) (Nat.le_of_ble_eq_true rfl) (fun p e s m args below meth c A Q ls KC hN hK hP hD hA hG hl hEnd => ?_)
  obtain ⟨hx, hb, hml, hown, hts⟩ := KC
  have hown : s.vm.findClass "DateSpansModel" = some m.cls := hown
  have hl : lv_has ls 5 [(0, .ref h_this), (1, .int p1), (2, .int p2)] := hl
  have hS : va_S A s.heap s.heap [] := va_S.rf
  have LP_48 : ∀ n_48 : Nat, ∀ (v2 : Int32) (v3 : Int32) (v4 : Int32) (i_this : Nat → Int32) (f_this_page : Nat → Int32) (ls : Array Slot) (H : Heap) (locs : List Loc), fX10_writesPart_l48 N j_this n_48 v2 v3 v4 i_this f_this_page = some (o_i_this, o_f_this_page) → lv_has ls 5 [(0, .ref h_this), (2, .int v2), (3, .int v3), (4, .int v4)] → va_P (dC, dI) vwCl [cl_X10 h_this h_this_dayAt h_this_secondAt h_this_spans h_this_kept h_this_text h_this_row h_this_read h_this_many h_this_first h_this_lengths h_this_page i_this j_this, (h_this_page, .inl (cB, 128, .inl f_this_page))] H → va_D A [cl_X10 h_this h_this_dayAt h_this_secondAt h_this_spans h_this_kept h_this_text h_this_row h_this_read h_this_many h_this_first h_this_lengths h_this_page i_this j_this, (h_this_page, .inl (cB, 128, .inl f_this_page))] → va_S A s.heap H locs → W p l e (kR 5 105) s m args below meth c H locs 0 0 Q (F0 m 48 ls []) := by
    intro n_48
    induction n_48 with
    | zero =>
      intro v2 v3 v4 i_this f_this_page ls H locs h hl hP hD hS
      rw [fX10_writesPart_l48_0] at h; cases h
    | succ n_48 ih_48 =>
      intro v2 v3 v4 i_this f_this_page ls H locs h hl hP hD hS
      rw [fX10_writesPart_l48_s] at h
      refine lv_iload hx hb dX10_writesPart_48 (lv_at hl 3 rfl) ?_
      refine lv_if_le (tgt := 77) hx hb dX10_writesPart_50 (by decide) (fun c1 => ?_) (fun c1 => ?_)
      · have h := ite_t c1 h
        refine lv_aload_n hx hb dX10_writesPart_77 rfl (lv_at hl 0 rfl) ?_
        refine lv_iload_n hx hb dX10_writesPart_78 rfl (lv_at hl 1 rfl) ?_
        obtain ⟨r2, hc3, h⟩ := bd1_at h
        refine kjSI (kSP (own := "DateSpansModel") (As := [.int v2]) (rest := [.ref h_this]) ⟨hx, hb, hml, hown, hts⟩ (kX10_letter l aK aV N v2 r2 hc3) (fun _ _ _ _ h => h.calling) (fun U hU hW => hG.pass hS (fun _ h => h.elim) hU hW) (kgS (kq q_1163 rfl) (kq q_1164 rfl) (kq q_66 rfl) (kq q_1165 rfl)) yd_X10_letter ⟨Nat.le_of_ble_eq_true rfl, Nat.le_of_ble_eq_true rfl⟩ rfl rfl hl.1 rfl (lv_room (Nat.le_of_ble_eq_true rfl)) dX10_writesPart_79) ?_
        obtain ⟨i_this_4, f_this_page_5, hc6, h⟩ := bd2_at h
        refine kjV (kV (own := "DateSpansModel") (C := "DateSpansModel") (b := h_this) (As := [.int r2]) (rest := []) ⟨hx, hb, hml, hown, hts⟩ (kX10_writes l dC dI cI cJ cB h_this h_this_dayAt h_this_secondAt h_this_spans h_this_kept h_this_text h_this_row h_this_read h_this_many h_this_first h_this_lengths h_this_page N r2 i_this j_this f_this_page i_this_4 f_this_page_5 hc6 _) (kgV (kq q_1534 rfl) (kq q_1536 rfl) (kq q_51 rfl) (kq q_66 rfl) (kq q_1537 rfl)) yd_X10_writes ⟨Nat.le_of_ble_eq_true rfl, Nat.le_of_ble_eq_true rfl⟩ hN hK hP hD [0, 1] rfl rfl (ci := 9) rfl rfl rfl rfl rfl hl.1 rfl (lv_room (Nat.le_of_ble_eq_true rfl)) dX10_writesPart_82) hP hD hS hA [0, 1] rfl rfl (fun H locs hP hD hS => ?_)
        have hP : va_P (dC, dI) vwCl [cl_X10 h_this h_this_dayAt h_this_secondAt h_this_spans h_this_kept h_this_text h_this_row h_this_read h_this_many h_this_first h_this_lengths h_this_page i_this_4 j_this, (h_this_page, .inl (cB, 128, .inl f_this_page_5))] H := hP
        have hD : va_D A [cl_X10 h_this h_this_dayAt h_this_secondAt h_this_spans h_this_kept h_this_text h_this_row h_this_read h_this_many h_this_first h_this_lengths h_this_page i_this_4 j_this, (h_this_page, .inl (cB, 128, .inl f_this_page_5))] := hD
        obtain ⟨rfl, rfl⟩ := pj2 h
        exact hEnd _ _ _ _ hP hS dX10_writesPart_85
      have h := ite_f c1 h
      refine lv_aload_n hx hb dX10_writesPart_53 rfl (lv_at hl 0 rfl) ?_
      refine lv_bipush (v := (48 : Int32)) hx hb dX10_writesPart_54 (by decide) ?_
      refine lv_iload_n hx hb dX10_writesPart_56 rfl (lv_at hl 2 rfl) ?_
      refine lv_iload hx hb dX10_writesPart_57 (lv_at hl 3 rfl) ?_
      obtain ⟨hn7, h⟩ := gn_at h
      refine lv_idiv hx hb dX10_writesPart_59 hn7 ?_
      refine lv_bipush (v := (10 : Int32)) hx hb dX10_writesPart_60 (by decide) ?_
      refine lv_irem hx hb dX10_writesPart_62 (by decide) ?_
      refine lv_iadd hx hb dX10_writesPart_63 ?_
      obtain ⟨i_this_8, f_this_page_9, hc10, h⟩ := bd2_at h
      refine kjV (kV (own := "DateSpansModel") (C := "DateSpansModel") (b := h_this) (As := [.int ((48 : Int32) + ((v3 / v4) - (v3 / v4) / (10 : Int32) * (10 : Int32)))]) (rest := []) ⟨hx, hb, hml, hown, hts⟩ (kX10_writes l dC dI cI cJ cB h_this h_this_dayAt h_this_secondAt h_this_spans h_this_kept h_this_text h_this_row h_this_read h_this_many h_this_first h_this_lengths h_this_page N ((48 : Int32) + ((v3 / v4) - (v3 / v4) / (10 : Int32) * (10 : Int32))) i_this j_this f_this_page i_this_8 f_this_page_9 hc10 _) (kgV (kq q_1534 rfl) (kq q_1536 rfl) (kq q_51 rfl) (kq q_66 rfl) (kq q_1537 rfl)) yd_X10_writes ⟨Nat.le_of_ble_eq_true rfl, Nat.le_of_ble_eq_true rfl⟩ hN hK hP hD [0, 1] rfl rfl (ci := 9) rfl rfl rfl rfl rfl hl.1 rfl (lv_room (Nat.le_of_ble_eq_true rfl)) dX10_writesPart_64) hP hD hS hA [0, 1] rfl rfl (fun H locs hP hD hS => ?_)
      have hP : va_P (dC, dI) vwCl [cl_X10 h_this h_this_dayAt h_this_secondAt h_this_spans h_this_kept h_this_text h_this_row h_this_read h_this_many h_this_first h_this_lengths h_this_page i_this_8 j_this, (h_this_page, .inl (cB, 128, .inl f_this_page_9))] H := hP
      have hD : va_D A [cl_X10 h_this h_this_dayAt h_this_secondAt h_this_spans h_this_kept h_this_text h_this_row h_this_read h_this_many h_this_first h_this_lengths h_this_page i_this_8 j_this, (h_this_page, .inl (cB, 128, .inl f_this_page_9))] := hD
      refine lv_iload hx hb dX10_writesPart_67 (lv_at hl 3 rfl) ?_
      refine lv_bipush (v := (10 : Int32)) hx hb dX10_writesPart_69 (by decide) ?_
      refine lv_idiv hx hb dX10_writesPart_71 (by decide) ?_
      refine lv_topi (fun z11 ez11 => ?_)
      have h := nm_at ez11 h
      refine lv_istore (lv' := [(4, .int z11), (0, .ref h_this), (2, .int v2), (3, .int v3)]) hx hb dX10_writesPart_72 hl (by decide) rfl (fun ls hl => ?_)
      refine lv_goto (tgt := 48) hx hb dX10_writesPart_74 (by decide) ?_
      exact ih_48 _ _ _ _ _ _ _ _ h (lv_sub hl [1, 2, 3, 0] rfl) hP hD hS
  have LP_29 : ∀ n_29 : Nat, ∀ (v2 : Int32) (v3 : Int32) (v4 : Int32) (i_this : Nat → Int32) (f_this_page : Nat → Int32) (ls : Array Slot) (H : Heap) (locs : List Loc), fX10_writesPart_l29 N j_this n_29 v2 v3 v4 i_this f_this_page = some (o_i_this, o_f_this_page) → lv_has ls 5 [(0, .ref h_this), (2, .int v2), (3, .int v3), (4, .int v4)] → va_P (dC, dI) vwCl [cl_X10 h_this h_this_dayAt h_this_secondAt h_this_spans h_this_kept h_this_text h_this_row h_this_read h_this_many h_this_first h_this_lengths h_this_page i_this j_this, (h_this_page, .inl (cB, 128, .inl f_this_page))] H → va_D A [cl_X10 h_this h_this_dayAt h_this_secondAt h_this_spans h_this_kept h_this_text h_this_row h_this_read h_this_many h_this_first h_this_lengths h_this_page i_this j_this, (h_this_page, .inl (cB, 128, .inl f_this_page))] → va_S A s.heap H locs → W p l e (kR 5 105) s m args below meth c H locs 0 0 Q (F0 m 29 ls []) := by
    intro n_29
    induction n_29 with
    | zero =>
      intro v2 v3 v4 i_this f_this_page ls H locs h hl hP hD hS
      rw [fX10_writesPart_l29_0] at h; cases h
    | succ n_29 ih_29 =>
      intro v2 v3 v4 i_this f_this_page ls H locs h hl hP hD hS
      rw [fX10_writesPart_l29_s] at h
      refine lv_iload hx hb dX10_writesPart_29 (lv_at hl 3 rfl) ?_
      refine lv_bipush (v := (10 : Int32)) hx hb dX10_writesPart_31 (by decide) ?_
      refine lv_imul hx hb dX10_writesPart_33 ?_
      refine lv_iload_n hx hb dX10_writesPart_34 rfl (lv_at hl 2 rfl) ?_
      refine lv_icmp_gt (tgt := 48) hx hb dX10_writesPart_35 (by decide) (fun c12 => ?_) (fun c12 => ?_)
      · have h := ite_t c12 h
        exact LP_48 N _ _ _ _ _ _ _ _ h (lv_sub hl [0, 1, 2, 3] rfl) hP hD hS
      have h := ite_f c12 h
      refine lv_iload hx hb dX10_writesPart_38 (lv_at hl 3 rfl) ?_
      refine lv_bipush (v := (10 : Int32)) hx hb dX10_writesPart_40 (by decide) ?_
      refine lv_imul hx hb dX10_writesPart_42 ?_
      refine lv_topi (fun z13 ez13 => ?_)
      have h := nm_at ez13 h
      refine lv_istore (lv' := [(4, .int z13), (0, .ref h_this), (2, .int v2), (3, .int v3)]) hx hb dX10_writesPart_43 hl (by decide) rfl (fun ls hl => ?_)
      refine lv_goto (tgt := 29) hx hb dX10_writesPart_45 (by decide) ?_
      exact ih_29 _ _ _ _ _ _ _ _ h (lv_sub hl [1, 2, 3, 0] rfl) hP hD hS
  have JN_15 : ∀ (v1 : Int32) (v2 : Int32) (i_this : Nat → Int32) (f_this_page : Nat → Int32) (ls : Array Slot) (H : Heap) (locs : List Loc), (fX10_writesPart_j15 N j_this) v1 v2 i_this f_this_page = some (o_i_this, o_f_this_page) → lv_has ls 5 [(0, .ref h_this), (1, .int v1), (2, .int v2)] → va_P (dC, dI) vwCl [cl_X10 h_this h_this_dayAt h_this_secondAt h_this_spans h_this_kept h_this_text h_this_row h_this_read h_this_many h_this_first h_this_lengths h_this_page i_this j_this, (h_this_page, .inl (cB, 128, .inl f_this_page))] H → va_D A [cl_X10 h_this h_this_dayAt h_this_secondAt h_this_spans h_this_kept h_this_text h_this_row h_this_read h_this_many h_this_first h_this_lengths h_this_page i_this j_this, (h_this_page, .inl (cB, 128, .inl f_this_page))] → va_S A s.heap H locs → W p l e (kR 5 105) s m args below meth c H locs 0 0 Q (F0 m 15 ls []) := by
    intro v1 v2 i_this f_this_page ls H locs h hl hP hD hS
    unfold fX10_writesPart_j15 at h
    refine lv_iload_n hx hb dX10_writesPart_15 rfl (lv_at hl 1 rfl) ?_
    refine lv_if_ge (tgt := 24) hx hb dX10_writesPart_16 (by decide) (fun c14 => ?_) (fun c14 => ?_)
    · have h := ite_t c14 h
      refine lv_iload_n hx hb dX10_writesPart_24 rfl (lv_at hl 1 rfl) ?_
      refine lv_istore_n (lv' := [(3, .int v1), (0, .ref h_this), (1, .int v1), (2, .int v2)]) hx hb dX10_writesPart_25 rfl hl (by decide) rfl (fun ls hl => ?_)
      refine lv_iconst (v := (1 : Int32)) hx hb dX10_writesPart_26 (by decide) ?_
      refine lv_istore (lv' := [(4, .int (1 : Int32)), (3, .int v1), (0, .ref h_this), (1, .int v1), (2, .int v2)]) hx hb dX10_writesPart_27 hl (by decide) rfl (fun ls hl => ?_)
      exact LP_29 N _ _ _ _ _ _ _ _ h (lv_sub hl [2, 4, 1, 0] rfl) hP hD hS
    have h := ite_f c14 h
    refine lv_iload_n hx hb dX10_writesPart_19 rfl (lv_at hl 1 rfl) ?_
    refine lv_ineg hx hb dX10_writesPart_20 ?_
    refine lv_goto (tgt := 25) hx hb dX10_writesPart_21 (by decide) ?_
    refine lv_topi (fun z15 ez15 => ?_)
    have h := nm_at ez15 h
    refine lv_istore_n (lv' := [(3, .int z15), (0, .ref h_this), (1, .int v1), (2, .int v2)]) hx hb dX10_writesPart_25 rfl hl (by decide) rfl (fun ls hl => ?_)
    refine lv_iconst (v := (1 : Int32)) hx hb dX10_writesPart_26 (by decide) ?_
    refine lv_istore (lv' := [(4, .int (1 : Int32)), (3, .int z15), (0, .ref h_this), (1, .int v1), (2, .int v2)]) hx hb dX10_writesPart_27 hl (by decide) rfl (fun ls hl => ?_)
    exact LP_29 N _ _ _ _ _ _ _ _ h (lv_sub hl [2, 4, 1, 0] rfl) hP hD hS
  have h := hf
  unfold fX10_writesPart at h
  refine lv_iload_n hx hb dX10_writesPart_0 rfl (lv_at hl 1 rfl) ?_
  refine lv_if_ne (tgt := 5) hx hb dX10_writesPart_1 (by decide) (fun c16 => ?_) (fun c16 => ?_)
  · have h := ite_f c16 h
    refine lv_iload_n hx hb dX10_writesPart_5 rfl (lv_at hl 1 rfl) ?_
    refine lv_if_ge (tgt := 15) hx hb dX10_writesPart_6 (by decide) (fun c17 => ?_) (fun c17 => ?_)
    · have h := ite_t c17 h
      exact JN_15 _ _ _ _ _ _ _ h (lv_sub hl [0, 1, 2] rfl) hP hD hS
    have h := ite_f c17 h
    refine lv_aload_n hx hb dX10_writesPart_9 rfl (lv_at hl 0 rfl) ?_
    refine lv_bipush (v := (45 : Int32)) hx hb dX10_writesPart_10 (by decide) ?_
    obtain ⟨i_this_18, f_this_page_19, hc20, h⟩ := bd2_at h
    refine kjV (kV (own := "DateSpansModel") (C := "DateSpansModel") (b := h_this) (As := [.int (45 : Int32)]) (rest := []) ⟨hx, hb, hml, hown, hts⟩ (kX10_writes l dC dI cI cJ cB h_this h_this_dayAt h_this_secondAt h_this_spans h_this_kept h_this_text h_this_row h_this_read h_this_many h_this_first h_this_lengths h_this_page N (45 : Int32) i_this j_this f_this_page i_this_18 f_this_page_19 hc20 _) (kgV (kq q_1534 rfl) (kq q_1536 rfl) (kq q_51 rfl) (kq q_66 rfl) (kq q_1537 rfl)) yd_X10_writes ⟨Nat.le_of_ble_eq_true rfl, Nat.le_of_ble_eq_true rfl⟩ hN hK hP hD [0, 1] rfl rfl (ci := 9) rfl rfl rfl rfl rfl hl.1 rfl (lv_room (Nat.le_of_ble_eq_true rfl)) dX10_writesPart_12) hP hD hS hA [0, 1] rfl rfl (fun H locs hP hD hS => ?_)
    have hP : va_P (dC, dI) vwCl [cl_X10 h_this h_this_dayAt h_this_secondAt h_this_spans h_this_kept h_this_text h_this_row h_this_read h_this_many h_this_first h_this_lengths h_this_page i_this_18 j_this, (h_this_page, .inl (cB, 128, .inl f_this_page_19))] H := hP
    have hD : va_D A [cl_X10 h_this h_this_dayAt h_this_secondAt h_this_spans h_this_kept h_this_text h_this_row h_this_read h_this_many h_this_first h_this_lengths h_this_page i_this_18 j_this, (h_this_page, .inl (cB, 128, .inl f_this_page_19))] := hD
    exact JN_15 _ _ _ _ _ _ _ h (lv_sub hl [0, 1, 2] rfl) hP hD hS
  have h := ite_t c16 h
  obtain ⟨rfl, rfl⟩ := pj2 h
  exact hEnd _ _ _ _ hP hS dX10_writesPart_4
noncomputable def fX10_phrase_l26 (N : Nat) (j_this : Nat → Int64) (f_this_spans : Nat → Int32) (n : Nat) : Int32 → Int32 → Int32 → (Nat → Int32) → (Nat → Int32) → Option (Int32 × (Nat → Int32) × (Nat → Int32)) := Nat.rec (motive := fun _ => Int32 → Int32 → Int32 → (Nat → Int32) → (Nat → Int32) → Option (Int32 × (Nat → Int32) × (Nat → Int32))) (fun _ _ _ _ _ => none) (fun _ K_26 v1 v2 v3 i_this f_this_page => (if (7 : Int32) ≤ v3 then (if (i_this 28) = (0 : Int32) then (bd2 (fX10_writes N (48 : Int32) i_this j_this f_this_page) fun i_this_5 f_this_page_6 => (bd2 (fX10_writes N (115 : Int32) i_this_5 j_this f_this_page_6) fun i_this_8 f_this_page_9 => (bd1 (fX10_signOf N v2 i_this_8 j_this f_this_page_9) fun r11 => (some (r11, i_this_8, f_this_page_9))))) else (bd1 (fX10_signOf N v2 i_this j_this f_this_page) fun r3 => (some (r3, i_this, f_this_page)))) else (bd1 (fX10_valueOf N v1 v3 i_this j_this f_this_spans) fun r13 => (bd1 (fX10_in N r13.toInt64 (-99999 : Int64) (99999 : Int64)) fun r15 => (if r15 = (0 : Int32) then (some ((-2 : Int32), i_this, f_this_page)) else (bd1 (fX10_valueOf N v1 v3 i_this j_this f_this_spans) fun r18 => (bd2 (fX10_writesPart N r18 v3 i_this j_this f_this_page) fun i_this_20 f_this_page_21 => (nm (v3 + (1 : Int32)) fun z23 => (K_26 v1 v2 z23 i_this_20 f_this_page_21))))))))) n
theorem fX10_phrase_l26_s (N : Nat) (j_this : Nat → Int64) (f_this_spans : Nat → Int32) (n : Nat) (v1 : Int32) (v2 : Int32) (v3 : Int32) (i_this : Nat → Int32) (f_this_page : Nat → Int32) : fX10_phrase_l26 N j_this f_this_spans (n + 1) v1 v2 v3 i_this f_this_page = (if (7 : Int32) ≤ v3 then (if (i_this 28) = (0 : Int32) then (bd2 (fX10_writes N (48 : Int32) i_this j_this f_this_page) fun i_this_5 f_this_page_6 => (bd2 (fX10_writes N (115 : Int32) i_this_5 j_this f_this_page_6) fun i_this_8 f_this_page_9 => (bd1 (fX10_signOf N v2 i_this_8 j_this f_this_page_9) fun r11 => (some (r11, i_this_8, f_this_page_9))))) else (bd1 (fX10_signOf N v2 i_this j_this f_this_page) fun r3 => (some (r3, i_this, f_this_page)))) else (bd1 (fX10_valueOf N v1 v3 i_this j_this f_this_spans) fun r13 => (bd1 (fX10_in N r13.toInt64 (-99999 : Int64) (99999 : Int64)) fun r15 => (if r15 = (0 : Int32) then (some ((-2 : Int32), i_this, f_this_page)) else (bd1 (fX10_valueOf N v1 v3 i_this j_this f_this_spans) fun r18 => (bd2 (fX10_writesPart N r18 v3 i_this j_this f_this_page) fun i_this_20 f_this_page_21 => (nm (v3 + (1 : Int32)) fun z23 => ((fX10_phrase_l26 N j_this f_this_spans n) v1 v2 z23 i_this_20 f_this_page_21)))))))) := rfl
theorem fX10_phrase_l26_0 (N : Nat) (j_this : Nat → Int64) (f_this_spans : Nat → Int32) (v1 : Int32) (v2 : Int32) (v3 : Int32) (i_this : Nat → Int32) (f_this_page : Nat → Int32) : fX10_phrase_l26 N j_this f_this_spans 0 v1 v2 v3 i_this f_this_page = none := rfl
noncomputable def fX10_phrase (N : Nat) (p1 : Int32) (p2 : Int32) (i_this : Nat → Int32) (j_this : Nat → Int64) (f_this_spans : Nat → Int32) (f_this_page : Nat → Int32) : Option (Int32 × (Nat → Int32) × (Nat → Int32)) := (bd1 (fX10_isSlot N p1) fun r24 => (if r24 = (0 : Int32) then (some ((-1 : Int32), (upd i_this 9 (0 : Int32)), f_this_page)) else (if (-1 : Int32) ≤ p2 then (fX10_phrase_l26 N j_this f_this_spans N p1 p2 (0 : Int32) (upd (upd i_this 9 (0 : Int32)) 28 (0 : Int32)) f_this_page) else (some ((-1 : Int32), (upd i_this 9 (0 : Int32)), f_this_page)))))
set_option maxHeartbeats 4000000 in
set_option maxRecDepth 100000 in
theorem kX10_phrase (l : Launch) (aK aV : Nat) (dC : Nat → ClassId) (dI : Nat → Nat → Nat) (cI cJ cB : ClassId) (h_this h_this_dayAt h_this_secondAt h_this_spans h_this_kept h_this_text h_this_row h_this_read h_this_many h_this_first h_this_lengths h_this_page : Nat) (N : Nat) (p1 : Int32) (p2 : Int32) (i_this : Nat → Int32) (j_this : Nat → Int64) (f_this_spans : Nat → Int32) (f_this_page : Nat → Int32) (r : Int32) (o_i_this : Nat → Int32) (o_f_this_page : Nat → Int32) (hf : fX10_phrase N p1 p2 i_this j_this f_this_spans f_this_page = some (r, o_i_this, o_f_this_page)) : MIs l yX10_phrase (kws yX10_phrase cX10_phrase 4 (some .int)) (kR 6 129) aK aV (dC, dI) (kT cI cJ cB) [.ref h_this, .int p1, .int p2] [cl_X10 h_this h_this_dayAt h_this_secondAt h_this_spans h_this_kept h_this_text h_this_row h_this_read h_this_many h_this_first h_this_lengths h_this_page i_this j_this, (h_this_spans, .inl (cI, 24, .inl f_this_spans)), (h_this_page, .inl (cB, 128, .inl f_this_page))] [cl_X10 h_this h_this_dayAt h_this_secondAt h_this_spans h_this_kept h_this_text h_this_row h_this_read h_this_many h_this_first h_this_lengths h_this_page o_i_this j_this, (h_this_spans, .inl (cI, 24, .inl f_this_spans)), (h_this_page, .inl (cB, 128, .inl o_f_this_page))] r := by
  refine MIs.of (cc := cX10_phrase) (maxL := 4) (by decide) (Nat.le_of_ble_eq_true rfl) (fun p e s m args below meth c A Q ls KC hN hK hP hD hA hG hl hEnd => ?_)
  obtain ⟨hx, hb, hml, hown, hts⟩ := KC
  have hown : s.vm.findClass "DateSpansModel" = some m.cls := hown
  have hl : lv_has ls 4 [(0, .ref h_this), (1, .int p1), (2, .int p2)] := hl
  have hS : va_S A s.heap s.heap [] := va_S.rf
  have LP_26 : ∀ n_26 : Nat, ∀ (v1 : Int32) (v2 : Int32) (v3 : Int32) (i_this : Nat → Int32) (f_this_page : Nat → Int32) (ls : Array Slot) (H : Heap) (locs : List Loc), fX10_phrase_l26 N j_this f_this_spans n_26 v1 v2 v3 i_this f_this_page = some (r, o_i_this, o_f_this_page) → lv_has ls 4 [(0, .ref h_this), (1, .int v1), (2, .int v2), (3, .int v3)] → va_P (dC, dI) vwCl [cl_X10 h_this h_this_dayAt h_this_secondAt h_this_spans h_this_kept h_this_text h_this_row h_this_read h_this_many h_this_first h_this_lengths h_this_page i_this j_this, (h_this_spans, .inl (cI, 24, .inl f_this_spans)), (h_this_page, .inl (cB, 128, .inl f_this_page))] H → va_D A [cl_X10 h_this h_this_dayAt h_this_secondAt h_this_spans h_this_kept h_this_text h_this_row h_this_read h_this_many h_this_first h_this_lengths h_this_page i_this j_this, (h_this_spans, .inl (cI, 24, .inl f_this_spans)), (h_this_page, .inl (cB, 128, .inl f_this_page))] → va_S A s.heap H locs → W p l e (kR 6 129) s m args below meth c H locs 0 0 Q (F0 m 26 ls []) := by
    intro n_26
    induction n_26 with
    | zero =>
      intro v1 v2 v3 i_this f_this_page ls H locs h hl hP hD hS
      rw [fX10_phrase_l26_0] at h; cases h
    | succ n_26 ih_26 =>
      intro v1 v2 v3 i_this f_this_page ls H locs h hl hP hD hS
      rw [fX10_phrase_l26_s] at h
      refine lv_iload_n hx hb dX10_phrase_26 rfl (lv_at hl 3 rfl) ?_
      refine lv_bipush (v := (7 : Int32)) hx hb dX10_phrase_27 (by decide) ?_
      refine lv_icmp_ge (tgt := 71) hx hb dX10_phrase_29 (by decide) (fun c1 => ?_) (fun c1 => ?_)
      · have h := ite_t c1 h
        refine lv_aload_n hx hb dX10_phrase_71 rfl (lv_at hl 0 rfl) ?_
        refine va_get (D := (dC, dI)) (ci := 9) (v := .int (i_this 28)) (C := RX10) (T := TX10) (N := 29) hx hb hts inX10 hown hK hP 0 rfl rfl 28 (by decide) (hts _ (kq q_1014 rfl)) (fun _ h9 => h9) rfl dX10_phrase_72 ?_
        refine lv_if_ne (tgt := 90) hx hb dX10_phrase_75 (by decide) (fun c2 => ?_) (fun c2 => ?_)
        · have h := ite_f c2 h
          refine lv_aload_n hx hb dX10_phrase_90 rfl (lv_at hl 0 rfl) ?_
          refine lv_iload_n hx hb dX10_phrase_91 rfl (lv_at hl 2 rfl) ?_
          obtain ⟨r3, hc4, h⟩ := bd1_at h
          refine kjI (kV (own := "DateSpansModel") (C := "DateSpansModel") (b := h_this) (As := [.int v2]) (rest := []) ⟨hx, hb, hml, hown, hts⟩ (kX10_signOf l dC dI cI cJ cB h_this h_this_dayAt h_this_secondAt h_this_spans h_this_kept h_this_text h_this_row h_this_read h_this_many h_this_first h_this_lengths h_this_page N v2 i_this j_this f_this_page r3 hc4 _) (kgV (kq q_1538 rfl) (kq q_1540 rfl) (kq q_52 rfl) (kq q_66 rfl) (kq q_1541 rfl)) yd_X10_signOf ⟨Nat.le_of_ble_eq_true rfl, Nat.le_of_ble_eq_true rfl⟩ hN hK hP hD [0, 2] rfl rfl (ci := 9) rfl rfl rfl rfl rfl hl.1 rfl (lv_room (Nat.le_of_ble_eq_true rfl)) dX10_phrase_92) hP hD hS hA [0, 2] rfl rfl (fun H locs hP hD hS => ?_)
          have hP : va_P (dC, dI) vwCl [cl_X10 h_this h_this_dayAt h_this_secondAt h_this_spans h_this_kept h_this_text h_this_row h_this_read h_this_many h_this_first h_this_lengths h_this_page i_this j_this, (h_this_spans, .inl (cI, 24, .inl f_this_spans)), (h_this_page, .inl (cB, 128, .inl f_this_page))] H := hP
          have hD : va_D A [cl_X10 h_this h_this_dayAt h_this_secondAt h_this_spans h_this_kept h_this_text h_this_row h_this_read h_this_many h_this_first h_this_lengths h_this_page i_this j_this, (h_this_spans, .inl (cI, 24, .inl f_this_spans)), (h_this_page, .inl (cB, 128, .inl f_this_page))] := hD
          obtain ⟨rfl, rfl, rfl⟩ := pj3 h
          exact hEnd _ _ _ _ hP hS dX10_phrase_95 rfl
        have h := ite_t c2 h
        refine lv_aload_n hx hb dX10_phrase_78 rfl (lv_at hl 0 rfl) ?_
        refine lv_bipush (v := (48 : Int32)) hx hb dX10_phrase_79 (by decide) ?_
        obtain ⟨i_this_5, f_this_page_6, hc7, h⟩ := bd2_at h
        refine kjV (kV (own := "DateSpansModel") (C := "DateSpansModel") (b := h_this) (As := [.int (48 : Int32)]) (rest := []) ⟨hx, hb, hml, hown, hts⟩ (kX10_writes l dC dI cI cJ cB h_this h_this_dayAt h_this_secondAt h_this_spans h_this_kept h_this_text h_this_row h_this_read h_this_many h_this_first h_this_lengths h_this_page N (48 : Int32) i_this j_this f_this_page i_this_5 f_this_page_6 hc7 _) (kgV (kq q_1534 rfl) (kq q_1536 rfl) (kq q_51 rfl) (kq q_66 rfl) (kq q_1537 rfl)) yd_X10_writes ⟨Nat.le_of_ble_eq_true rfl, Nat.le_of_ble_eq_true rfl⟩ hN hK hP hD [0, 2] rfl rfl (ci := 9) rfl rfl rfl rfl rfl hl.1 rfl (lv_room (Nat.le_of_ble_eq_true rfl)) dX10_phrase_81) hP hD hS hA [0, 2] rfl rfl (fun H locs hP hD hS => ?_)
        have hP : va_P (dC, dI) vwCl [cl_X10 h_this h_this_dayAt h_this_secondAt h_this_spans h_this_kept h_this_text h_this_row h_this_read h_this_many h_this_first h_this_lengths h_this_page i_this_5 j_this, (h_this_spans, .inl (cI, 24, .inl f_this_spans)), (h_this_page, .inl (cB, 128, .inl f_this_page_6))] H := hP
        have hD : va_D A [cl_X10 h_this h_this_dayAt h_this_secondAt h_this_spans h_this_kept h_this_text h_this_row h_this_read h_this_many h_this_first h_this_lengths h_this_page i_this_5 j_this, (h_this_spans, .inl (cI, 24, .inl f_this_spans)), (h_this_page, .inl (cB, 128, .inl f_this_page_6))] := hD
        refine lv_aload_n hx hb dX10_phrase_84 rfl (lv_at hl 0 rfl) ?_
        refine lv_bipush (v := (115 : Int32)) hx hb dX10_phrase_85 (by decide) ?_
        obtain ⟨i_this_8, f_this_page_9, hc10, h⟩ := bd2_at h
        refine kjV (kV (own := "DateSpansModel") (C := "DateSpansModel") (b := h_this) (As := [.int (115 : Int32)]) (rest := []) ⟨hx, hb, hml, hown, hts⟩ (kX10_writes l dC dI cI cJ cB h_this h_this_dayAt h_this_secondAt h_this_spans h_this_kept h_this_text h_this_row h_this_read h_this_many h_this_first h_this_lengths h_this_page N (115 : Int32) i_this_5 j_this f_this_page_6 i_this_8 f_this_page_9 hc10 _) (kgV (kq q_1534 rfl) (kq q_1536 rfl) (kq q_51 rfl) (kq q_66 rfl) (kq q_1537 rfl)) yd_X10_writes ⟨Nat.le_of_ble_eq_true rfl, Nat.le_of_ble_eq_true rfl⟩ hN hK hP hD [0, 2] rfl rfl (ci := 9) rfl rfl rfl rfl rfl hl.1 rfl (lv_room (Nat.le_of_ble_eq_true rfl)) dX10_phrase_87) hP hD hS hA [0, 2] rfl rfl (fun H locs hP hD hS => ?_)
        have hP : va_P (dC, dI) vwCl [cl_X10 h_this h_this_dayAt h_this_secondAt h_this_spans h_this_kept h_this_text h_this_row h_this_read h_this_many h_this_first h_this_lengths h_this_page i_this_8 j_this, (h_this_spans, .inl (cI, 24, .inl f_this_spans)), (h_this_page, .inl (cB, 128, .inl f_this_page_9))] H := hP
        have hD : va_D A [cl_X10 h_this h_this_dayAt h_this_secondAt h_this_spans h_this_kept h_this_text h_this_row h_this_read h_this_many h_this_first h_this_lengths h_this_page i_this_8 j_this, (h_this_spans, .inl (cI, 24, .inl f_this_spans)), (h_this_page, .inl (cB, 128, .inl f_this_page_9))] := hD
        refine lv_aload_n hx hb dX10_phrase_90 rfl (lv_at hl 0 rfl) ?_
        refine lv_iload_n hx hb dX10_phrase_91 rfl (lv_at hl 2 rfl) ?_
        obtain ⟨r11, hc12, h⟩ := bd1_at h
        refine kjI (kV (own := "DateSpansModel") (C := "DateSpansModel") (b := h_this) (As := [.int v2]) (rest := []) ⟨hx, hb, hml, hown, hts⟩ (kX10_signOf l dC dI cI cJ cB h_this h_this_dayAt h_this_secondAt h_this_spans h_this_kept h_this_text h_this_row h_this_read h_this_many h_this_first h_this_lengths h_this_page N v2 i_this_8 j_this f_this_page_9 r11 hc12 _) (kgV (kq q_1538 rfl) (kq q_1540 rfl) (kq q_52 rfl) (kq q_66 rfl) (kq q_1541 rfl)) yd_X10_signOf ⟨Nat.le_of_ble_eq_true rfl, Nat.le_of_ble_eq_true rfl⟩ hN hK hP hD [0, 2] rfl rfl (ci := 9) rfl rfl rfl rfl rfl hl.1 rfl (lv_room (Nat.le_of_ble_eq_true rfl)) dX10_phrase_92) hP hD hS hA [0, 2] rfl rfl (fun H locs hP hD hS => ?_)
        have hP : va_P (dC, dI) vwCl [cl_X10 h_this h_this_dayAt h_this_secondAt h_this_spans h_this_kept h_this_text h_this_row h_this_read h_this_many h_this_first h_this_lengths h_this_page i_this_8 j_this, (h_this_spans, .inl (cI, 24, .inl f_this_spans)), (h_this_page, .inl (cB, 128, .inl f_this_page_9))] H := hP
        have hD : va_D A [cl_X10 h_this h_this_dayAt h_this_secondAt h_this_spans h_this_kept h_this_text h_this_row h_this_read h_this_many h_this_first h_this_lengths h_this_page i_this_8 j_this, (h_this_spans, .inl (cI, 24, .inl f_this_spans)), (h_this_page, .inl (cB, 128, .inl f_this_page_9))] := hD
        obtain ⟨rfl, rfl, rfl⟩ := pj3 h
        exact hEnd _ _ _ _ hP hS dX10_phrase_95 rfl
      have h := ite_f c1 h
      refine lv_aload_n hx hb dX10_phrase_32 rfl (lv_at hl 0 rfl) ?_
      refine lv_iload_n hx hb dX10_phrase_33 rfl (lv_at hl 1 rfl) ?_
      refine lv_iload_n hx hb dX10_phrase_34 rfl (lv_at hl 3 rfl) ?_
      obtain ⟨r13, hc14, h⟩ := bd1_at h
      refine kjI (kV (own := "DateSpansModel") (C := "DateSpansModel") (b := h_this) (As := [.int v1, .int v3]) (rest := []) ⟨hx, hb, hml, hown, hts⟩ (kX10_valueOf l dC dI cI cJ cB h_this h_this_dayAt h_this_secondAt h_this_spans h_this_kept h_this_text h_this_row h_this_read h_this_many h_this_first h_this_lengths h_this_page N v1 v3 i_this j_this f_this_spans r13 hc14 _) (kgV (kq q_1546 rfl) (kq q_1548 rfl) (kq q_53 rfl) (kq q_66 rfl) (kq q_1549 rfl)) yd_X10_valueOf ⟨Nat.le_of_ble_eq_true rfl, Nat.le_of_ble_eq_true rfl⟩ hN hK hP hD [0, 1] rfl rfl (ci := 9) rfl rfl rfl rfl rfl hl.1 rfl (lv_room (Nat.le_of_ble_eq_true rfl)) dX10_phrase_35) hP hD hS hA [0, 1] rfl rfl (fun H locs hP hD hS => ?_)
      have hP : va_P (dC, dI) vwCl [cl_X10 h_this h_this_dayAt h_this_secondAt h_this_spans h_this_kept h_this_text h_this_row h_this_read h_this_many h_this_first h_this_lengths h_this_page i_this j_this, (h_this_spans, .inl (cI, 24, .inl f_this_spans)), (h_this_page, .inl (cB, 128, .inl f_this_page))] H := hP
      have hD : va_D A [cl_X10 h_this h_this_dayAt h_this_secondAt h_this_spans h_this_kept h_this_text h_this_row h_this_read h_this_many h_this_first h_this_lengths h_this_page i_this j_this, (h_this_spans, .inl (cI, 24, .inl f_this_spans)), (h_this_page, .inl (cB, 128, .inl f_this_page))] := hD
      refine lv_i2l hx hb dX10_phrase_38 rfl ?_
      refine lv_ldc2 (v := (-99999 : Int64)) hx hb hown (hts _ (kq q_1550 rfl)) dX10_phrase_39 ?_
      refine lv_ldc2 (v := (99999 : Int64)) hx hb hown (hts _ (kq q_1551 rfl)) dX10_phrase_42 ?_
      obtain ⟨r15, hc16, h⟩ := bd1_at h
      refine kjSI (kS0 (own := "DateSpansModel") (As := [.long r13.toInt64, .long (-99999 : Int64), .long (99999 : Int64)]) (rest := []) ⟨hx, hb, hml, hown, hts⟩ (kX10_in l N r13.toInt64 (-99999 : Int64) (99999 : Int64) r15 hc16) (kgS (kq q_1086 rfl) (kq q_1087 rfl) (kq q_66 rfl) (kq q_1088 rfl)) yd_X10_in ⟨Nat.le_of_ble_eq_true rfl, Nat.le_of_ble_eq_true rfl⟩ rfl rfl hl.1 rfl (lv_room (Nat.le_of_ble_eq_true rfl)) dX10_phrase_45) ?_
      refine lv_if_ne (tgt := 54) hx hb dX10_phrase_48 (by decide) (fun c17 => ?_) (fun c17 => ?_)
      · have h := ite_f c17 h
        refine lv_aload_n hx hb dX10_phrase_54 rfl (lv_at hl 0 rfl) ?_
        refine lv_aload_n hx hb dX10_phrase_55 rfl (lv_at hl 0 rfl) ?_
        refine lv_iload_n hx hb dX10_phrase_56 rfl (lv_at hl 1 rfl) ?_
        refine lv_iload_n hx hb dX10_phrase_57 rfl (lv_at hl 3 rfl) ?_
        obtain ⟨r18, hc19, h⟩ := bd1_at h
        refine kjI (kV (own := "DateSpansModel") (C := "DateSpansModel") (b := h_this) (As := [.int v1, .int v3]) (rest := [.ref h_this]) ⟨hx, hb, hml, hown, hts⟩ (kX10_valueOf l dC dI cI cJ cB h_this h_this_dayAt h_this_secondAt h_this_spans h_this_kept h_this_text h_this_row h_this_read h_this_many h_this_first h_this_lengths h_this_page N v1 v3 i_this j_this f_this_spans r18 hc19 _) (kgV (kq q_1546 rfl) (kq q_1548 rfl) (kq q_53 rfl) (kq q_66 rfl) (kq q_1549 rfl)) yd_X10_valueOf ⟨Nat.le_of_ble_eq_true rfl, Nat.le_of_ble_eq_true rfl⟩ hN hK hP hD [0, 1] rfl rfl (ci := 9) rfl rfl rfl rfl rfl hl.1 rfl (lv_room (Nat.le_of_ble_eq_true rfl)) dX10_phrase_58) hP hD hS hA [0, 1] rfl rfl (fun H locs hP hD hS => ?_)
        have hP : va_P (dC, dI) vwCl [cl_X10 h_this h_this_dayAt h_this_secondAt h_this_spans h_this_kept h_this_text h_this_row h_this_read h_this_many h_this_first h_this_lengths h_this_page i_this j_this, (h_this_spans, .inl (cI, 24, .inl f_this_spans)), (h_this_page, .inl (cB, 128, .inl f_this_page))] H := hP
        have hD : va_D A [cl_X10 h_this h_this_dayAt h_this_secondAt h_this_spans h_this_kept h_this_text h_this_row h_this_read h_this_many h_this_first h_this_lengths h_this_page i_this j_this, (h_this_spans, .inl (cI, 24, .inl f_this_spans)), (h_this_page, .inl (cB, 128, .inl f_this_page))] := hD
        refine lv_iload_n hx hb dX10_phrase_61 rfl (lv_at hl 3 rfl) ?_
        obtain ⟨i_this_20, f_this_page_21, hc22, h⟩ := bd2_at h
        refine kjV (kVs hG hS hA (own := "DateSpansModel") (C := "DateSpansModel") (b := h_this) (As := [.int r18, .int v3]) (rest := []) ⟨hx, hb, hml, hown, hts⟩ (kX10_writesPart l aK aV dC dI cI cJ cB h_this h_this_dayAt h_this_secondAt h_this_spans h_this_kept h_this_text h_this_row h_this_read h_this_many h_this_first h_this_lengths h_this_page N r18 v3 i_this j_this f_this_page i_this_20 f_this_page_21 hc22 _) (kgV (kq q_1552 rfl) (kq q_1554 rfl) (kq q_54 rfl) (kq q_66 rfl) (kq q_1555 rfl)) yd_X10_writesPart ⟨Nat.le_of_ble_eq_true rfl, Nat.le_of_ble_eq_true rfl⟩ hN hK hP hD [0, 2] rfl rfl (ci := 9) rfl rfl rfl rfl rfl hl.1 rfl (lv_room (Nat.le_of_ble_eq_true rfl)) dX10_phrase_62) hP hD hS hA [0, 2] rfl rfl (fun H locs hP hD hS => ?_)
        have hP : va_P (dC, dI) vwCl [cl_X10 h_this h_this_dayAt h_this_secondAt h_this_spans h_this_kept h_this_text h_this_row h_this_read h_this_many h_this_first h_this_lengths h_this_page i_this_20 j_this, (h_this_spans, .inl (cI, 24, .inl f_this_spans)), (h_this_page, .inl (cB, 128, .inl f_this_page_21))] H := hP
        have hD : va_D A [cl_X10 h_this h_this_dayAt h_this_secondAt h_this_spans h_this_kept h_this_text h_this_row h_this_read h_this_many h_this_first h_this_lengths h_this_page i_this_20 j_this, (h_this_spans, .inl (cI, 24, .inl f_this_spans)), (h_this_page, .inl (cB, 128, .inl f_this_page_21))] := hD
        obtain ⟨z23, ez23⟩ : ∃ y : Int32, y = (v3 + (1 : Int32)) := ⟨_, rfl⟩
        have h := nm_at ez23 h
        refine lv_iinc (v := z23) (lv' := [(3, .int z23), (0, .ref h_this), (1, .int v1), (2, .int v2)]) hx hb dX10_phrase_65 hl (k := 3) rfl (by rw [ez23]; rfl) (by decide) rfl (fun ls hl => ?_)
        refine lv_goto (tgt := 26) hx hb dX10_phrase_68 (by decide) ?_
        exact ih_26 _ _ _ _ _ _ _ _ h (lv_sub hl [1, 2, 3, 0] rfl) hP hD hS
      have h := ite_t c17 h
      refine lv_bipush (v := (-2 : Int32)) hx hb dX10_phrase_51 (by decide) ?_
      obtain ⟨rfl, rfl, rfl⟩ := pj3 h
      exact hEnd _ _ _ _ hP hS dX10_phrase_53 rfl
  have h := hf
  unfold fX10_phrase at h
  refine lv_aload_n hx hb dX10_phrase_0 rfl (lv_at hl 0 rfl) ?_
  refine lv_iconst (v := (0 : Int32)) hx hb dX10_phrase_1 (by decide) ?_
  refine va_put (D := (dC, dI)) (ci := 9) (v := .int (0 : Int32)) (ty := .int) (C := RX10) (T := TX10) (N := 29) hx hb hts inX10 tyX10 tyX10_ok nmX10 hown hK hP hD hS 0 rfl rfl 9 (by decide) (hts _ (kq q_995 rfl)) (fun _ h9 => h9) rfl (by decide +kernel) rfl rfl (Nat.le_of_ble_eq_true rfl) dX10_phrase_2 (fun H locs hP hD hS => ?_)
  have hP : va_P (dC, dI) vwCl [(h_this, .inr (9, [.ref h_this_dayAt, .ref h_this_secondAt, .ref h_this_spans, .ref h_this_kept, .int (i_this 4), .ref h_this_text, .int (i_this 6), .ref h_this_row, .int (i_this 8), .int (0 : Int32), .int (i_this 10), .int (i_this 11), .int (i_this 12), .int (i_this 13), .int (i_this 14), .int (i_this 15), .int (i_this 16), .int (i_this 17), .int (i_this 18), .ref h_this_read, .long (j_this 20), .ref h_this_many, .ref h_this_first, .ref h_this_lengths, .int (i_this 24), .long (j_this 25), .long (j_this 26), .ref h_this_page, .int (i_this 28)])), (h_this_spans, .inl (cI, 24, .inl f_this_spans)), (h_this_page, .inl (cB, 128, .inl f_this_page))] H := hP
  have hD : va_D A [(h_this, .inr (9, [.ref h_this_dayAt, .ref h_this_secondAt, .ref h_this_spans, .ref h_this_kept, .int (i_this 4), .ref h_this_text, .int (i_this 6), .ref h_this_row, .int (i_this 8), .int (0 : Int32), .int (i_this 10), .int (i_this 11), .int (i_this 12), .int (i_this 13), .int (i_this 14), .int (i_this 15), .int (i_this 16), .int (i_this 17), .int (i_this 18), .ref h_this_read, .long (j_this 20), .ref h_this_many, .ref h_this_first, .ref h_this_lengths, .int (i_this 24), .long (j_this 25), .long (j_this 26), .ref h_this_page, .int (i_this 28)])), (h_this_spans, .inl (cI, 24, .inl f_this_spans)), (h_this_page, .inl (cB, 128, .inl f_this_page))] := hD
  refine lv_iload_n hx hb dX10_phrase_5 rfl (lv_at hl 1 rfl) ?_
  have hP : va_P (dC, dI) vwCl [cl_X10 h_this h_this_dayAt h_this_secondAt h_this_spans h_this_kept h_this_text h_this_row h_this_read h_this_many h_this_first h_this_lengths h_this_page (upd i_this 9 (0 : Int32)) j_this, (h_this_spans, .inl (cI, 24, .inl f_this_spans)), (h_this_page, .inl (cB, 128, .inl f_this_page))] H := hP
  have hD : va_D A [cl_X10 h_this h_this_dayAt h_this_secondAt h_this_spans h_this_kept h_this_text h_this_row h_this_read h_this_many h_this_first h_this_lengths h_this_page (upd i_this 9 (0 : Int32)) j_this, (h_this_spans, .inl (cI, 24, .inl f_this_spans)), (h_this_page, .inl (cB, 128, .inl f_this_page))] := hD
  obtain ⟨r24, hc25, h⟩ := bd1_at h
  refine kjSI (kS0 (own := "DateSpansModel") (As := [.int p1]) (rest := []) ⟨hx, hb, hml, hown, hts⟩ (kX10_isSlot l N p1 r24 hc25) (kgS (kq q_1123 rfl) (kq q_1124 rfl) (kq q_66 rfl) (kq q_1125 rfl)) yd_X10_isSlot ⟨Nat.le_of_ble_eq_true rfl, Nat.le_of_ble_eq_true rfl⟩ rfl rfl hl.1 rfl (lv_room (Nat.le_of_ble_eq_true rfl)) dX10_phrase_6) ?_
  refine lv_if_eq (tgt := 17) hx hb dX10_phrase_9 (by decide) (fun c26 => ?_) (fun c26 => ?_)
  · have h := ite_t c26 h
    refine lv_iconst (v := (-1 : Int32)) hx hb dX10_phrase_17 (by decide) ?_
    obtain ⟨rfl, rfl, rfl⟩ := pj3 h
    exact hEnd _ _ _ _ hP hS dX10_phrase_18 rfl
  have h := ite_f c26 h
  refine lv_iload_n hx hb dX10_phrase_12 rfl (lv_at hl 2 rfl) ?_
  refine lv_iconst (v := (-1 : Int32)) hx hb dX10_phrase_13 (by decide) ?_
  refine lv_icmp_ge (tgt := 19) hx hb dX10_phrase_14 (by decide) (fun c27 => ?_) (fun c27 => ?_)
  · have h := ite_t c27 h
    refine lv_aload_n hx hb dX10_phrase_19 rfl (lv_at hl 0 rfl) ?_
    refine lv_iconst (v := (0 : Int32)) hx hb dX10_phrase_20 (by decide) ?_
    refine va_put (D := (dC, dI)) (ci := 9) (v := .int (0 : Int32)) (ty := .int) (C := RX10) (T := TX10) (N := 29) hx hb hts inX10 tyX10 tyX10_ok nmX10 hown hK hP hD hS 0 rfl rfl 28 (by decide) (hts _ (kq q_1014 rfl)) (fun _ h9 => h9) rfl (by decide +kernel) rfl rfl (Nat.le_of_ble_eq_true rfl) dX10_phrase_21 (fun H locs hP hD hS => ?_)
    have hP : va_P (dC, dI) vwCl [(h_this, .inr (9, [.ref h_this_dayAt, .ref h_this_secondAt, .ref h_this_spans, .ref h_this_kept, .int ((upd i_this 9 (0 : Int32)) 4), .ref h_this_text, .int ((upd i_this 9 (0 : Int32)) 6), .ref h_this_row, .int ((upd i_this 9 (0 : Int32)) 8), .int ((upd i_this 9 (0 : Int32)) 9), .int ((upd i_this 9 (0 : Int32)) 10), .int ((upd i_this 9 (0 : Int32)) 11), .int ((upd i_this 9 (0 : Int32)) 12), .int ((upd i_this 9 (0 : Int32)) 13), .int ((upd i_this 9 (0 : Int32)) 14), .int ((upd i_this 9 (0 : Int32)) 15), .int ((upd i_this 9 (0 : Int32)) 16), .int ((upd i_this 9 (0 : Int32)) 17), .int ((upd i_this 9 (0 : Int32)) 18), .ref h_this_read, .long (j_this 20), .ref h_this_many, .ref h_this_first, .ref h_this_lengths, .int ((upd i_this 9 (0 : Int32)) 24), .long (j_this 25), .long (j_this 26), .ref h_this_page, .int (0 : Int32)])), (h_this_spans, .inl (cI, 24, .inl f_this_spans)), (h_this_page, .inl (cB, 128, .inl f_this_page))] H := hP
    have hD : va_D A [(h_this, .inr (9, [.ref h_this_dayAt, .ref h_this_secondAt, .ref h_this_spans, .ref h_this_kept, .int ((upd i_this 9 (0 : Int32)) 4), .ref h_this_text, .int ((upd i_this 9 (0 : Int32)) 6), .ref h_this_row, .int ((upd i_this 9 (0 : Int32)) 8), .int ((upd i_this 9 (0 : Int32)) 9), .int ((upd i_this 9 (0 : Int32)) 10), .int ((upd i_this 9 (0 : Int32)) 11), .int ((upd i_this 9 (0 : Int32)) 12), .int ((upd i_this 9 (0 : Int32)) 13), .int ((upd i_this 9 (0 : Int32)) 14), .int ((upd i_this 9 (0 : Int32)) 15), .int ((upd i_this 9 (0 : Int32)) 16), .int ((upd i_this 9 (0 : Int32)) 17), .int ((upd i_this 9 (0 : Int32)) 18), .ref h_this_read, .long (j_this 20), .ref h_this_many, .ref h_this_first, .ref h_this_lengths, .int ((upd i_this 9 (0 : Int32)) 24), .long (j_this 25), .long (j_this 26), .ref h_this_page, .int (0 : Int32)])), (h_this_spans, .inl (cI, 24, .inl f_this_spans)), (h_this_page, .inl (cB, 128, .inl f_this_page))] := hD
    refine lv_iconst (v := (0 : Int32)) hx hb dX10_phrase_24 (by decide) ?_
    refine lv_istore_n (lv' := [(3, .int (0 : Int32)), (0, .ref h_this), (1, .int p1), (2, .int p2)]) hx hb dX10_phrase_25 rfl hl (by decide) rfl (fun ls hl => ?_)
    have hP : va_P (dC, dI) vwCl [cl_X10 h_this h_this_dayAt h_this_secondAt h_this_spans h_this_kept h_this_text h_this_row h_this_read h_this_many h_this_first h_this_lengths h_this_page (upd (upd i_this 9 (0 : Int32)) 28 (0 : Int32)) j_this, (h_this_spans, .inl (cI, 24, .inl f_this_spans)), (h_this_page, .inl (cB, 128, .inl f_this_page))] H := hP
    have hD : va_D A [cl_X10 h_this h_this_dayAt h_this_secondAt h_this_spans h_this_kept h_this_text h_this_row h_this_read h_this_many h_this_first h_this_lengths h_this_page (upd (upd i_this 9 (0 : Int32)) 28 (0 : Int32)) j_this, (h_this_spans, .inl (cI, 24, .inl f_this_spans)), (h_this_page, .inl (cB, 128, .inl f_this_page))] := hD
    exact LP_26 N _ _ _ _ _ _ _ _ h (lv_sub hl [1, 2, 3, 0] rfl) hP hD hS
  have h := ite_f c27 h
  refine lv_iconst (v := (-1 : Int32)) hx hb dX10_phrase_17 (by decide) ?_
  obtain ⟨rfl, rfl, rfl⟩ := pj3 h
  exact hEnd _ _ _ _ hP hS dX10_phrase_18 rfl
