noncomputable def fX4_becomes_l2 (N : Nat) (f_a1_day : Nat → Int32) (f_a1_second : Nat → Int32) (f_a1_months : Nat → Int32) (f_a1_days : Nat → Int32) (f_a1_seconds : Nat → Int32) (n : Nat) : Int32 → (Nat → Int32) → (Nat → Int32) → (Nat → Int32) → (Nat → Int32) → (Nat → Int32) → Option ((Nat → Int32) × (Nat → Int32) × (Nat → Int32) × (Nat → Int32) × (Nat → Int32)) := Nat.rec (motive := fun _ => Int32 → (Nat → Int32) → (Nat → Int32) → (Nat → Int32) → (Nat → Int32) → (Nat → Int32) → Option ((Nat → Int32) × (Nat → Int32) × (Nat → Int32) × (Nat → Int32) × (Nat → Int32))) (fun _ _ _ _ _ _ => none) (fun _ K_2 v2 f_this_day f_this_second f_this_months f_this_days f_this_seconds => (if (8 : Int32) ≤ v2 then (some (f_this_day, f_this_second, f_this_months, f_this_days, f_this_seconds)) else (bd1 (fX4_dayAt N v2 f_a1_day) fun r2 => (bd1 (fX4_secondAt N v2 f_a1_second) fun r4 => (bd2 (fX4_putMoment N v2 r2 r4 f_this_day f_this_second) fun f_this_day_6 f_this_second_7 => (bd1 (fX4_monthsAt N v2 f_a1_months) fun r9 => (bd1 (fX4_daysAt N v2 f_a1_days) fun r11 => (bd1 (fX4_secondsAt N v2 f_a1_seconds) fun r13 => (bd3 (fX4_putSpan N v2 r9 r11 r13 f_this_months f_this_days f_this_seconds) fun f_this_months_15 f_this_days_16 f_this_seconds_17 => (nm (v2 + (1 : Int32)) fun z19 => (K_2 z19 f_this_day_6 f_this_second_7 f_this_months_15 f_this_days_16 f_this_seconds_17))))))))))) n
theorem fX4_becomes_l2_s (N : Nat) (f_a1_day : Nat → Int32) (f_a1_second : Nat → Int32) (f_a1_months : Nat → Int32) (f_a1_days : Nat → Int32) (f_a1_seconds : Nat → Int32) (n : Nat) (v2 : Int32) (f_this_day : Nat → Int32) (f_this_second : Nat → Int32) (f_this_months : Nat → Int32) (f_this_days : Nat → Int32) (f_this_seconds : Nat → Int32) : fX4_becomes_l2 N f_a1_day f_a1_second f_a1_months f_a1_days f_a1_seconds (n + 1) v2 f_this_day f_this_second f_this_months f_this_days f_this_seconds = (if (8 : Int32) ≤ v2 then (some (f_this_day, f_this_second, f_this_months, f_this_days, f_this_seconds)) else (bd1 (fX4_dayAt N v2 f_a1_day) fun r2 => (bd1 (fX4_secondAt N v2 f_a1_second) fun r4 => (bd2 (fX4_putMoment N v2 r2 r4 f_this_day f_this_second) fun f_this_day_6 f_this_second_7 => (bd1 (fX4_monthsAt N v2 f_a1_months) fun r9 => (bd1 (fX4_daysAt N v2 f_a1_days) fun r11 => (bd1 (fX4_secondsAt N v2 f_a1_seconds) fun r13 => (bd3 (fX4_putSpan N v2 r9 r11 r13 f_this_months f_this_days f_this_seconds) fun f_this_months_15 f_this_days_16 f_this_seconds_17 => (nm (v2 + (1 : Int32)) fun z19 => ((fX4_becomes_l2 N f_a1_day f_a1_second f_a1_months f_a1_days f_a1_seconds n) z19 f_this_day_6 f_this_second_7 f_this_months_15 f_this_days_16 f_this_seconds_17)))))))))) := rfl
theorem fX4_becomes_l2_0 (N : Nat) (f_a1_day : Nat → Int32) (f_a1_second : Nat → Int32) (f_a1_months : Nat → Int32) (f_a1_days : Nat → Int32) (f_a1_seconds : Nat → Int32) (v2 : Int32) (f_this_day : Nat → Int32) (f_this_second : Nat → Int32) (f_this_months : Nat → Int32) (f_this_days : Nat → Int32) (f_this_seconds : Nat → Int32) : fX4_becomes_l2 N f_a1_day f_a1_second f_a1_months f_a1_days f_a1_seconds 0 v2 f_this_day f_this_second f_this_months f_this_days f_this_seconds = none := rfl
noncomputable def fX4_becomes (N : Nat) (f_this_day : Nat → Int32) (f_this_second : Nat → Int32) (f_this_months : Nat → Int32) (f_this_days : Nat → Int32) (f_this_seconds : Nat → Int32) (f_a1_day : Nat → Int32) (f_a1_second : Nat → Int32) (f_a1_months : Nat → Int32) (f_a1_days : Nat → Int32) (f_a1_seconds : Nat → Int32) : Option ((Nat → Int32) × (Nat → Int32) × (Nat → Int32) × (Nat → Int32) × (Nat → Int32)) := (fX4_becomes_l2 N f_a1_day f_a1_second f_a1_months f_a1_days f_a1_seconds N (0 : Int32) f_this_day f_this_second f_this_months f_this_days f_this_seconds)
set_option maxHeartbeats 4000000 in
set_option maxRecDepth 100000 in
theorem kX4_becomes (l : Launch) (dC : Nat → ClassId) (dI : Nat → Nat → Nat) (cI cJ cB : ClassId) (h_this h_this_day h_this_second h_this_months h_this_days h_this_seconds h_a1 h_a1_day h_a1_second h_a1_months h_a1_days h_a1_seconds : Nat) (N : Nat) (f_this_day : Nat → Int32) (f_this_second : Nat → Int32) (f_this_months : Nat → Int32) (f_this_days : Nat → Int32) (f_this_seconds : Nat → Int32) (f_a1_day : Nat → Int32) (f_a1_second : Nat → Int32) (f_a1_months : Nat → Int32) (f_a1_days : Nat → Int32) (f_a1_seconds : Nat → Int32) (o_f_this_day : Nat → Int32) (o_f_this_second : Nat → Int32) (o_f_this_months : Nat → Int32) (o_f_this_days : Nat → Int32) (o_f_this_seconds : Nat → Int32) (hf : fX4_becomes N f_this_day f_this_second f_this_months f_this_days f_this_seconds f_a1_day f_a1_second f_a1_months f_a1_days f_a1_seconds = some (o_f_this_day, o_f_this_second, o_f_this_months, o_f_this_days, o_f_this_seconds)) : MV l yX4_becomes (kws yX4_becomes cX4_becomes 3 (none)) (kR 2 44) (dC, dI) (kT cI cJ cB) [.ref h_this, .ref h_a1] [cl_X4 h_this h_this_day h_this_second h_this_months h_this_days h_this_seconds, (h_this_day, .inl (cI, 8, .inl f_this_day)), (h_this_second, .inl (cI, 8, .inl f_this_second)), (h_this_months, .inl (cI, 8, .inl f_this_months)), (h_this_days, .inl (cI, 8, .inl f_this_days)), (h_this_seconds, .inl (cI, 8, .inl f_this_seconds)), cl_X4 h_a1 h_a1_day h_a1_second h_a1_months h_a1_days h_a1_seconds, (h_a1_day, .inl (cI, 8, .inl f_a1_day)), (h_a1_second, .inl (cI, 8, .inl f_a1_second)), (h_a1_months, .inl (cI, 8, .inl f_a1_months)), (h_a1_days, .inl (cI, 8, .inl f_a1_days)), (h_a1_seconds, .inl (cI, 8, .inl f_a1_seconds))] [cl_X4 h_this h_this_day h_this_second h_this_months h_this_days h_this_seconds, (h_this_day, .inl (cI, 8, .inl o_f_this_day)), (h_this_second, .inl (cI, 8, .inl o_f_this_second)), (h_this_months, .inl (cI, 8, .inl o_f_this_months)), (h_this_days, .inl (cI, 8, .inl o_f_this_days)), (h_this_seconds, .inl (cI, 8, .inl o_f_this_seconds)), cl_X4 h_a1 h_a1_day h_a1_second h_a1_months h_a1_days h_a1_seconds, (h_a1_day, .inl (cI, 8, .inl f_a1_day)), (h_a1_second, .inl (cI, 8, .inl f_a1_second)), (h_a1_months, .inl (cI, 8, .inl f_a1_months)), (h_a1_days, .inl (cI, 8, .inl f_a1_days)), (h_a1_seconds, .inl (cI, 8, .inl f_a1_seconds))] := by
  refine MV.of (cc := cX4_becomes) (maxL := 3) (by decide) (Nat.le_of_ble_eq_true rfl) (fun p e s m args below meth c A Q ls KC hN hK hP hD hA hl hEnd => ?_)
  obtain ⟨hx, hb, hml, hown, hts⟩ := KC
  have hown : s.vm.findClass "DateSpans$Slots" = some m.cls := hown
  have hl : lv_has ls 3 [(0, .ref h_this), (1, .ref h_a1)] := hl
  have hS : va_S A s.heap s.heap [] := va_S.rf
  have LP_2 : ∀ n_2 : Nat, ∀ (v2 : Int32) (f_this_day : Nat → Int32) (f_this_second : Nat → Int32) (f_this_months : Nat → Int32) (f_this_days : Nat → Int32) (f_this_seconds : Nat → Int32) (ls : Array Slot) (H : Heap) (locs : List Loc), fX4_becomes_l2 N f_a1_day f_a1_second f_a1_months f_a1_days f_a1_seconds n_2 v2 f_this_day f_this_second f_this_months f_this_days f_this_seconds = some (o_f_this_day, o_f_this_second, o_f_this_months, o_f_this_days, o_f_this_seconds) → lv_has ls 3 [(0, .ref h_this), (1, .ref h_a1), (2, .int v2)] → va_P (dC, dI) vwCl [cl_X4 h_this h_this_day h_this_second h_this_months h_this_days h_this_seconds, (h_this_day, .inl (cI, 8, .inl f_this_day)), (h_this_second, .inl (cI, 8, .inl f_this_second)), (h_this_months, .inl (cI, 8, .inl f_this_months)), (h_this_days, .inl (cI, 8, .inl f_this_days)), (h_this_seconds, .inl (cI, 8, .inl f_this_seconds)), cl_X4 h_a1 h_a1_day h_a1_second h_a1_months h_a1_days h_a1_seconds, (h_a1_day, .inl (cI, 8, .inl f_a1_day)), (h_a1_second, .inl (cI, 8, .inl f_a1_second)), (h_a1_months, .inl (cI, 8, .inl f_a1_months)), (h_a1_days, .inl (cI, 8, .inl f_a1_days)), (h_a1_seconds, .inl (cI, 8, .inl f_a1_seconds))] H → va_D A [cl_X4 h_this h_this_day h_this_second h_this_months h_this_days h_this_seconds, (h_this_day, .inl (cI, 8, .inl f_this_day)), (h_this_second, .inl (cI, 8, .inl f_this_second)), (h_this_months, .inl (cI, 8, .inl f_this_months)), (h_this_days, .inl (cI, 8, .inl f_this_days)), (h_this_seconds, .inl (cI, 8, .inl f_this_seconds)), cl_X4 h_a1 h_a1_day h_a1_second h_a1_months h_a1_days h_a1_seconds, (h_a1_day, .inl (cI, 8, .inl f_a1_day)), (h_a1_second, .inl (cI, 8, .inl f_a1_second)), (h_a1_months, .inl (cI, 8, .inl f_a1_months)), (h_a1_days, .inl (cI, 8, .inl f_a1_days)), (h_a1_seconds, .inl (cI, 8, .inl f_a1_seconds))] → va_S A s.heap H locs → W p l e (kR 2 44) s m args below meth c H locs 0 0 Q (F0 m 2 ls []) := by
    intro n_2
    induction n_2 with
    | zero =>
      intro v2 f_this_day f_this_second f_this_months f_this_days f_this_seconds ls H locs h hl hP hD hS
      rw [fX4_becomes_l2_0] at h; cases h
    | succ n_2 ih_2 =>
      intro v2 f_this_day f_this_second f_this_months f_this_days f_this_seconds ls H locs h hl hP hD hS
      rw [fX4_becomes_l2_s] at h
      refine lv_iload_n hx hb dX4_becomes_2 rfl (lv_at hl 2 rfl) ?_
      refine lv_bipush (v := (8 : Int32)) hx hb dX4_becomes_3 (by decide) ?_
      refine lv_icmp_ge (tgt := 49) hx hb dX4_becomes_5 (by decide) (fun c1 => ?_) (fun c1 => ?_)
      · have h := ite_t c1 h
        obtain ⟨rfl, rfl, rfl, rfl, rfl⟩ := pj5 h
        exact hEnd _ _ _ _ hP hS dX4_becomes_49
      have h := ite_f c1 h
      refine lv_aload_n hx hb dX4_becomes_8 rfl (lv_at hl 0 rfl) ?_
      refine lv_iload_n hx hb dX4_becomes_9 rfl (lv_at hl 2 rfl) ?_
      refine lv_aload_n hx hb dX4_becomes_10 rfl (lv_at hl 1 rfl) ?_
      refine lv_iload_n hx hb dX4_becomes_11 rfl (lv_at hl 2 rfl) ?_
      obtain ⟨r2, hc3, h⟩ := bd1_at h
      refine kjI (kV (own := "DateSpans$Slots") (C := "DateSpans$Slots") (b := h_a1) (As := [.int v2]) (rest := [.int v2, .ref h_this]) ⟨hx, hb, hml, hown, hts⟩ (kX4_dayAt l dC dI cI cJ cB h_a1 h_a1_day h_a1_second h_a1_months h_a1_days h_a1_seconds N v2 f_a1_day r2 hc3 _) (kgV (kq q_622 rfl) (kq q_405 rfl) (kq q_406 rfl) (kq q_58 rfl) (kq q_407 rfl)) yd_X4_dayAt ⟨Nat.le_of_ble_eq_true rfl, Nat.le_of_ble_eq_true rfl⟩ hN hK hP hD [6, 7] rfl rfl (ci := 3) rfl rfl rfl rfl rfl hl.1 rfl (lv_room (Nat.le_of_ble_eq_true rfl)) dX4_becomes_12) hP hD hS hA [6, 7] rfl rfl (fun H locs hP hD hS => ?_)
      have hP : va_P (dC, dI) vwCl [cl_X4 h_this h_this_day h_this_second h_this_months h_this_days h_this_seconds, (h_this_day, .inl (cI, 8, .inl f_this_day)), (h_this_second, .inl (cI, 8, .inl f_this_second)), (h_this_months, .inl (cI, 8, .inl f_this_months)), (h_this_days, .inl (cI, 8, .inl f_this_days)), (h_this_seconds, .inl (cI, 8, .inl f_this_seconds)), cl_X4 h_a1 h_a1_day h_a1_second h_a1_months h_a1_days h_a1_seconds, (h_a1_day, .inl (cI, 8, .inl f_a1_day)), (h_a1_second, .inl (cI, 8, .inl f_a1_second)), (h_a1_months, .inl (cI, 8, .inl f_a1_months)), (h_a1_days, .inl (cI, 8, .inl f_a1_days)), (h_a1_seconds, .inl (cI, 8, .inl f_a1_seconds))] H := hP
      have hD : va_D A [cl_X4 h_this h_this_day h_this_second h_this_months h_this_days h_this_seconds, (h_this_day, .inl (cI, 8, .inl f_this_day)), (h_this_second, .inl (cI, 8, .inl f_this_second)), (h_this_months, .inl (cI, 8, .inl f_this_months)), (h_this_days, .inl (cI, 8, .inl f_this_days)), (h_this_seconds, .inl (cI, 8, .inl f_this_seconds)), cl_X4 h_a1 h_a1_day h_a1_second h_a1_months h_a1_days h_a1_seconds, (h_a1_day, .inl (cI, 8, .inl f_a1_day)), (h_a1_second, .inl (cI, 8, .inl f_a1_second)), (h_a1_months, .inl (cI, 8, .inl f_a1_months)), (h_a1_days, .inl (cI, 8, .inl f_a1_days)), (h_a1_seconds, .inl (cI, 8, .inl f_a1_seconds))] := hD
      refine lv_aload_n hx hb dX4_becomes_15 rfl (lv_at hl 1 rfl) ?_
      refine lv_iload_n hx hb dX4_becomes_16 rfl (lv_at hl 2 rfl) ?_
      obtain ⟨r4, hc5, h⟩ := bd1_at h
      refine kjI (kV (own := "DateSpans$Slots") (C := "DateSpans$Slots") (b := h_a1) (As := [.int v2]) (rest := [.int r2, .int v2, .ref h_this]) ⟨hx, hb, hml, hown, hts⟩ (kX4_secondAt l dC dI cI cJ cB h_a1 h_a1_day h_a1_second h_a1_months h_a1_days h_a1_seconds N v2 f_a1_second r4 hc5 _) (kgV (kq q_623 rfl) (kq q_476 rfl) (kq q_477 rfl) (kq q_58 rfl) (kq q_478 rfl)) yd_X4_secondAt ⟨Nat.le_of_ble_eq_true rfl, Nat.le_of_ble_eq_true rfl⟩ hN hK hP hD [6, 8] rfl rfl (ci := 3) rfl rfl rfl rfl rfl hl.1 rfl (lv_room (Nat.le_of_ble_eq_true rfl)) dX4_becomes_17) hP hD hS hA [6, 8] rfl rfl (fun H locs hP hD hS => ?_)
      have hP : va_P (dC, dI) vwCl [cl_X4 h_this h_this_day h_this_second h_this_months h_this_days h_this_seconds, (h_this_day, .inl (cI, 8, .inl f_this_day)), (h_this_second, .inl (cI, 8, .inl f_this_second)), (h_this_months, .inl (cI, 8, .inl f_this_months)), (h_this_days, .inl (cI, 8, .inl f_this_days)), (h_this_seconds, .inl (cI, 8, .inl f_this_seconds)), cl_X4 h_a1 h_a1_day h_a1_second h_a1_months h_a1_days h_a1_seconds, (h_a1_day, .inl (cI, 8, .inl f_a1_day)), (h_a1_second, .inl (cI, 8, .inl f_a1_second)), (h_a1_months, .inl (cI, 8, .inl f_a1_months)), (h_a1_days, .inl (cI, 8, .inl f_a1_days)), (h_a1_seconds, .inl (cI, 8, .inl f_a1_seconds))] H := hP
      have hD : va_D A [cl_X4 h_this h_this_day h_this_second h_this_months h_this_days h_this_seconds, (h_this_day, .inl (cI, 8, .inl f_this_day)), (h_this_second, .inl (cI, 8, .inl f_this_second)), (h_this_months, .inl (cI, 8, .inl f_this_months)), (h_this_days, .inl (cI, 8, .inl f_this_days)), (h_this_seconds, .inl (cI, 8, .inl f_this_seconds)), cl_X4 h_a1 h_a1_day h_a1_second h_a1_months h_a1_days h_a1_seconds, (h_a1_day, .inl (cI, 8, .inl f_a1_day)), (h_a1_second, .inl (cI, 8, .inl f_a1_second)), (h_a1_months, .inl (cI, 8, .inl f_a1_months)), (h_a1_days, .inl (cI, 8, .inl f_a1_days)), (h_a1_seconds, .inl (cI, 8, .inl f_a1_seconds))] := hD
      obtain ⟨f_this_day_6, f_this_second_7, hc8, h⟩ := bd2_at h
      refine kjV (kV (own := "DateSpans$Slots") (C := "DateSpans$Slots") (b := h_this) (As := [.int v2, .int r2, .int r4]) (rest := []) ⟨hx, hb, hml, hown, hts⟩ (kX4_putMoment l dC dI cI cJ cB h_this h_this_day h_this_second h_this_months h_this_days h_this_seconds N v2 r2 r4 f_this_day f_this_second f_this_day_6 f_this_second_7 hc8 _) (kgV (kq q_793 rfl) (kq q_391 rfl) (kq q_392 rfl) (kq q_58 rfl) (kq q_393 rfl)) yd_X4_putMoment ⟨Nat.le_of_ble_eq_true rfl, Nat.le_of_ble_eq_true rfl⟩ hN hK hP hD [0, 1, 2] rfl rfl (ci := 3) rfl rfl rfl rfl rfl hl.1 rfl (lv_room (Nat.le_of_ble_eq_true rfl)) dX4_becomes_20) hP hD hS hA [0, 1, 2] rfl rfl (fun H locs hP hD hS => ?_)
      have hP : va_P (dC, dI) vwCl [cl_X4 h_this h_this_day h_this_second h_this_months h_this_days h_this_seconds, (h_this_day, .inl (cI, 8, .inl f_this_day_6)), (h_this_second, .inl (cI, 8, .inl f_this_second_7)), (h_this_months, .inl (cI, 8, .inl f_this_months)), (h_this_days, .inl (cI, 8, .inl f_this_days)), (h_this_seconds, .inl (cI, 8, .inl f_this_seconds)), cl_X4 h_a1 h_a1_day h_a1_second h_a1_months h_a1_days h_a1_seconds, (h_a1_day, .inl (cI, 8, .inl f_a1_day)), (h_a1_second, .inl (cI, 8, .inl f_a1_second)), (h_a1_months, .inl (cI, 8, .inl f_a1_months)), (h_a1_days, .inl (cI, 8, .inl f_a1_days)), (h_a1_seconds, .inl (cI, 8, .inl f_a1_seconds))] H := hP
      have hD : va_D A [cl_X4 h_this h_this_day h_this_second h_this_months h_this_days h_this_seconds, (h_this_day, .inl (cI, 8, .inl f_this_day_6)), (h_this_second, .inl (cI, 8, .inl f_this_second_7)), (h_this_months, .inl (cI, 8, .inl f_this_months)), (h_this_days, .inl (cI, 8, .inl f_this_days)), (h_this_seconds, .inl (cI, 8, .inl f_this_seconds)), cl_X4 h_a1 h_a1_day h_a1_second h_a1_months h_a1_days h_a1_seconds, (h_a1_day, .inl (cI, 8, .inl f_a1_day)), (h_a1_second, .inl (cI, 8, .inl f_a1_second)), (h_a1_months, .inl (cI, 8, .inl f_a1_months)), (h_a1_days, .inl (cI, 8, .inl f_a1_days)), (h_a1_seconds, .inl (cI, 8, .inl f_a1_seconds))] := hD
      refine lv_aload_n hx hb dX4_becomes_23 rfl (lv_at hl 0 rfl) ?_
      refine lv_iload_n hx hb dX4_becomes_24 rfl (lv_at hl 2 rfl) ?_
      refine lv_aload_n hx hb dX4_becomes_25 rfl (lv_at hl 1 rfl) ?_
      refine lv_iload_n hx hb dX4_becomes_26 rfl (lv_at hl 2 rfl) ?_
      obtain ⟨r9, hc10, h⟩ := bd1_at h
      refine kjI (kV (own := "DateSpans$Slots") (C := "DateSpans$Slots") (b := h_a1) (As := [.int v2]) (rest := [.int v2, .ref h_this]) ⟨hx, hb, hml, hown, hts⟩ (kX4_monthsAt l dC dI cI cJ cB h_a1 h_a1_day h_a1_second h_a1_months h_a1_days h_a1_seconds N v2 f_a1_months r9 hc10 _) (kgV (kq q_886 rfl) (kq q_491 rfl) (kq q_492 rfl) (kq q_58 rfl) (kq q_493 rfl)) yd_X4_monthsAt ⟨Nat.le_of_ble_eq_true rfl, Nat.le_of_ble_eq_true rfl⟩ hN hK hP hD [6, 9] rfl rfl (ci := 3) rfl rfl rfl rfl rfl hl.1 rfl (lv_room (Nat.le_of_ble_eq_true rfl)) dX4_becomes_27) hP hD hS hA [6, 9] rfl rfl (fun H locs hP hD hS => ?_)
      have hP : va_P (dC, dI) vwCl [cl_X4 h_this h_this_day h_this_second h_this_months h_this_days h_this_seconds, (h_this_day, .inl (cI, 8, .inl f_this_day_6)), (h_this_second, .inl (cI, 8, .inl f_this_second_7)), (h_this_months, .inl (cI, 8, .inl f_this_months)), (h_this_days, .inl (cI, 8, .inl f_this_days)), (h_this_seconds, .inl (cI, 8, .inl f_this_seconds)), cl_X4 h_a1 h_a1_day h_a1_second h_a1_months h_a1_days h_a1_seconds, (h_a1_day, .inl (cI, 8, .inl f_a1_day)), (h_a1_second, .inl (cI, 8, .inl f_a1_second)), (h_a1_months, .inl (cI, 8, .inl f_a1_months)), (h_a1_days, .inl (cI, 8, .inl f_a1_days)), (h_a1_seconds, .inl (cI, 8, .inl f_a1_seconds))] H := hP
      have hD : va_D A [cl_X4 h_this h_this_day h_this_second h_this_months h_this_days h_this_seconds, (h_this_day, .inl (cI, 8, .inl f_this_day_6)), (h_this_second, .inl (cI, 8, .inl f_this_second_7)), (h_this_months, .inl (cI, 8, .inl f_this_months)), (h_this_days, .inl (cI, 8, .inl f_this_days)), (h_this_seconds, .inl (cI, 8, .inl f_this_seconds)), cl_X4 h_a1 h_a1_day h_a1_second h_a1_months h_a1_days h_a1_seconds, (h_a1_day, .inl (cI, 8, .inl f_a1_day)), (h_a1_second, .inl (cI, 8, .inl f_a1_second)), (h_a1_months, .inl (cI, 8, .inl f_a1_months)), (h_a1_days, .inl (cI, 8, .inl f_a1_days)), (h_a1_seconds, .inl (cI, 8, .inl f_a1_seconds))] := hD
      refine lv_aload_n hx hb dX4_becomes_30 rfl (lv_at hl 1 rfl) ?_
      refine lv_iload_n hx hb dX4_becomes_31 rfl (lv_at hl 2 rfl) ?_
      obtain ⟨r11, hc12, h⟩ := bd1_at h
      refine kjI (kV (own := "DateSpans$Slots") (C := "DateSpans$Slots") (b := h_a1) (As := [.int v2]) (rest := [.int r9, .int v2, .ref h_this]) ⟨hx, hb, hml, hown, hts⟩ (kX4_daysAt l dC dI cI cJ cB h_a1 h_a1_day h_a1_second h_a1_months h_a1_days h_a1_seconds N v2 f_a1_days r11 hc12 _) (kgV (kq q_887 rfl) (kq q_495 rfl) (kq q_496 rfl) (kq q_58 rfl) (kq q_497 rfl)) yd_X4_daysAt ⟨Nat.le_of_ble_eq_true rfl, Nat.le_of_ble_eq_true rfl⟩ hN hK hP hD [6, 10] rfl rfl (ci := 3) rfl rfl rfl rfl rfl hl.1 rfl (lv_room (Nat.le_of_ble_eq_true rfl)) dX4_becomes_32) hP hD hS hA [6, 10] rfl rfl (fun H locs hP hD hS => ?_)
      have hP : va_P (dC, dI) vwCl [cl_X4 h_this h_this_day h_this_second h_this_months h_this_days h_this_seconds, (h_this_day, .inl (cI, 8, .inl f_this_day_6)), (h_this_second, .inl (cI, 8, .inl f_this_second_7)), (h_this_months, .inl (cI, 8, .inl f_this_months)), (h_this_days, .inl (cI, 8, .inl f_this_days)), (h_this_seconds, .inl (cI, 8, .inl f_this_seconds)), cl_X4 h_a1 h_a1_day h_a1_second h_a1_months h_a1_days h_a1_seconds, (h_a1_day, .inl (cI, 8, .inl f_a1_day)), (h_a1_second, .inl (cI, 8, .inl f_a1_second)), (h_a1_months, .inl (cI, 8, .inl f_a1_months)), (h_a1_days, .inl (cI, 8, .inl f_a1_days)), (h_a1_seconds, .inl (cI, 8, .inl f_a1_seconds))] H := hP
      have hD : va_D A [cl_X4 h_this h_this_day h_this_second h_this_months h_this_days h_this_seconds, (h_this_day, .inl (cI, 8, .inl f_this_day_6)), (h_this_second, .inl (cI, 8, .inl f_this_second_7)), (h_this_months, .inl (cI, 8, .inl f_this_months)), (h_this_days, .inl (cI, 8, .inl f_this_days)), (h_this_seconds, .inl (cI, 8, .inl f_this_seconds)), cl_X4 h_a1 h_a1_day h_a1_second h_a1_months h_a1_days h_a1_seconds, (h_a1_day, .inl (cI, 8, .inl f_a1_day)), (h_a1_second, .inl (cI, 8, .inl f_a1_second)), (h_a1_months, .inl (cI, 8, .inl f_a1_months)), (h_a1_days, .inl (cI, 8, .inl f_a1_days)), (h_a1_seconds, .inl (cI, 8, .inl f_a1_seconds))] := hD
      refine lv_aload_n hx hb dX4_becomes_35 rfl (lv_at hl 1 rfl) ?_
      refine lv_iload_n hx hb dX4_becomes_36 rfl (lv_at hl 2 rfl) ?_
      obtain ⟨r13, hc14, h⟩ := bd1_at h
      refine kjI (kV (own := "DateSpans$Slots") (C := "DateSpans$Slots") (b := h_a1) (As := [.int v2]) (rest := [.int r11, .int r9, .int v2, .ref h_this]) ⟨hx, hb, hml, hown, hts⟩ (kX4_secondsAt l dC dI cI cJ cB h_a1 h_a1_day h_a1_second h_a1_months h_a1_days h_a1_seconds N v2 f_a1_seconds r13 hc14 _) (kgV (kq q_888 rfl) (kq q_499 rfl) (kq q_500 rfl) (kq q_58 rfl) (kq q_501 rfl)) yd_X4_secondsAt ⟨Nat.le_of_ble_eq_true rfl, Nat.le_of_ble_eq_true rfl⟩ hN hK hP hD [6, 11] rfl rfl (ci := 3) rfl rfl rfl rfl rfl hl.1 rfl (lv_room (Nat.le_of_ble_eq_true rfl)) dX4_becomes_37) hP hD hS hA [6, 11] rfl rfl (fun H locs hP hD hS => ?_)
      have hP : va_P (dC, dI) vwCl [cl_X4 h_this h_this_day h_this_second h_this_months h_this_days h_this_seconds, (h_this_day, .inl (cI, 8, .inl f_this_day_6)), (h_this_second, .inl (cI, 8, .inl f_this_second_7)), (h_this_months, .inl (cI, 8, .inl f_this_months)), (h_this_days, .inl (cI, 8, .inl f_this_days)), (h_this_seconds, .inl (cI, 8, .inl f_this_seconds)), cl_X4 h_a1 h_a1_day h_a1_second h_a1_months h_a1_days h_a1_seconds, (h_a1_day, .inl (cI, 8, .inl f_a1_day)), (h_a1_second, .inl (cI, 8, .inl f_a1_second)), (h_a1_months, .inl (cI, 8, .inl f_a1_months)), (h_a1_days, .inl (cI, 8, .inl f_a1_days)), (h_a1_seconds, .inl (cI, 8, .inl f_a1_seconds))] H := hP
      have hD : va_D A [cl_X4 h_this h_this_day h_this_second h_this_months h_this_days h_this_seconds, (h_this_day, .inl (cI, 8, .inl f_this_day_6)), (h_this_second, .inl (cI, 8, .inl f_this_second_7)), (h_this_months, .inl (cI, 8, .inl f_this_months)), (h_this_days, .inl (cI, 8, .inl f_this_days)), (h_this_seconds, .inl (cI, 8, .inl f_this_seconds)), cl_X4 h_a1 h_a1_day h_a1_second h_a1_months h_a1_days h_a1_seconds, (h_a1_day, .inl (cI, 8, .inl f_a1_day)), (h_a1_second, .inl (cI, 8, .inl f_a1_second)), (h_a1_months, .inl (cI, 8, .inl f_a1_months)), (h_a1_days, .inl (cI, 8, .inl f_a1_days)), (h_a1_seconds, .inl (cI, 8, .inl f_a1_seconds))] := hD
      obtain ⟨f_this_months_15, f_this_days_16, f_this_seconds_17, hc18, h⟩ := bd3_at h
      refine kjV (kV (own := "DateSpans$Slots") (C := "DateSpans$Slots") (b := h_this) (As := [.int v2, .int r9, .int r11, .int r13]) (rest := []) ⟨hx, hb, hml, hown, hts⟩ (kX4_putSpan l dC dI cI cJ cB h_this h_this_day h_this_second h_this_months h_this_days h_this_seconds N v2 r9 r11 r13 f_this_months f_this_days f_this_seconds f_this_months_15 f_this_days_16 f_this_seconds_17 hc18 _) (kgV (kq q_889 rfl) (kq q_438 rfl) (kq q_439 rfl) (kq q_58 rfl) (kq q_440 rfl)) yd_X4_putSpan ⟨Nat.le_of_ble_eq_true rfl, Nat.le_of_ble_eq_true rfl⟩ hN hK hP hD [0, 3, 4, 5] rfl rfl (ci := 3) rfl rfl rfl rfl rfl hl.1 rfl (lv_room (Nat.le_of_ble_eq_true rfl)) dX4_becomes_40) hP hD hS hA [0, 3, 4, 5] rfl rfl (fun H locs hP hD hS => ?_)
      have hP : va_P (dC, dI) vwCl [cl_X4 h_this h_this_day h_this_second h_this_months h_this_days h_this_seconds, (h_this_day, .inl (cI, 8, .inl f_this_day_6)), (h_this_second, .inl (cI, 8, .inl f_this_second_7)), (h_this_months, .inl (cI, 8, .inl f_this_months_15)), (h_this_days, .inl (cI, 8, .inl f_this_days_16)), (h_this_seconds, .inl (cI, 8, .inl f_this_seconds_17)), cl_X4 h_a1 h_a1_day h_a1_second h_a1_months h_a1_days h_a1_seconds, (h_a1_day, .inl (cI, 8, .inl f_a1_day)), (h_a1_second, .inl (cI, 8, .inl f_a1_second)), (h_a1_months, .inl (cI, 8, .inl f_a1_months)), (h_a1_days, .inl (cI, 8, .inl f_a1_days)), (h_a1_seconds, .inl (cI, 8, .inl f_a1_seconds))] H := hP
      have hD : va_D A [cl_X4 h_this h_this_day h_this_second h_this_months h_this_days h_this_seconds, (h_this_day, .inl (cI, 8, .inl f_this_day_6)), (h_this_second, .inl (cI, 8, .inl f_this_second_7)), (h_this_months, .inl (cI, 8, .inl f_this_months_15)), (h_this_days, .inl (cI, 8, .inl f_this_days_16)), (h_this_seconds, .inl (cI, 8, .inl f_this_seconds_17)), cl_X4 h_a1 h_a1_day h_a1_second h_a1_months h_a1_days h_a1_seconds, (h_a1_day, .inl (cI, 8, .inl f_a1_day)), (h_a1_second, .inl (cI, 8, .inl f_a1_second)), (h_a1_months, .inl (cI, 8, .inl f_a1_months)), (h_a1_days, .inl (cI, 8, .inl f_a1_days)), (h_a1_seconds, .inl (cI, 8, .inl f_a1_seconds))] := hD
      obtain ⟨z19, ez19⟩ : ∃ y : Int32, y = (v2 + (1 : Int32)) := ⟨_, rfl⟩
      have h := nm_at ez19 h
      refine lv_iinc (v := z19) (lv' := [(2, .int z19), (0, .ref h_this), (1, .ref h_a1)]) hx hb dX4_becomes_43 hl (k := 2) rfl (by rw [ez19]; rfl) (by decide) rfl (fun ls hl => ?_)
      refine lv_goto (tgt := 2) hx hb dX4_becomes_46 (by decide) ?_
      exact ih_2 _ _ _ _ _ _ _ _ _ h (lv_sub hl [1, 2, 0] rfl) hP hD hS
  have h := hf
  unfold fX4_becomes at h
  refine lv_iconst (v := (0 : Int32)) hx hb dX4_becomes_0 (by decide) ?_
  refine lv_istore_n (lv' := [(2, .int (0 : Int32)), (0, .ref h_this), (1, .ref h_a1)]) hx hb dX4_becomes_1 rfl hl (by decide) rfl (fun ls hl => ?_)
  exact LP_2 N _ _ _ _ _ _ _ _ _ h (lv_sub hl [1, 2, 0] rfl) hP hD hS
noncomputable def fX9_keeps (N : Nat) (i_this : Int32) (f_this_now_day : Nat → Int32) (f_this_now_second : Nat → Int32) (f_this_now_months : Nat → Int32) (f_this_now_days : Nat → Int32) (f_this_now_seconds : Nat → Int32) (f_this_kept_day : Nat → Int32) (f_this_kept_second : Nat → Int32) (f_this_kept_months : Nat → Int32) (f_this_kept_days : Nat → Int32) (f_this_kept_seconds : Nat → Int32) : Option (Int32 × Int32 × (Nat → Int32) × (Nat → Int32) × (Nat → Int32) × (Nat → Int32) × (Nat → Int32)) := (bd5 (fX4_becomes N f_this_kept_day f_this_kept_second f_this_kept_months f_this_kept_days f_this_kept_seconds f_this_now_day f_this_now_second f_this_now_months f_this_now_days f_this_now_seconds) fun f_this_kept_day_1 f_this_kept_second_2 f_this_kept_months_3 f_this_kept_days_4 f_this_kept_seconds_5 => (some ((1 : Int32), (1 : Int32), f_this_kept_day_1, f_this_kept_second_2, f_this_kept_months_3, f_this_kept_days_4, f_this_kept_seconds_5)))
set_option maxHeartbeats 4000000 in
set_option maxRecDepth 100000 in
theorem kX9_keeps (l : Launch) (dC : Nat → ClassId) (dI : Nat → Nat → Nat) (cI cJ cB : ClassId) (h_this h_this_now h_this_kept h_this_told h_this_text h_this_script h_this_momentReader h_this_spanReader h_this_adder h_this_other h_this_trial h_this_ways h_this_now_day h_this_now_second h_this_now_months h_this_now_days h_this_now_seconds h_this_kept_day h_this_kept_second h_this_kept_months h_this_kept_days h_this_kept_seconds : Nat) (N : Nat) (i_this : Int32) (f_this_now_day : Nat → Int32) (f_this_now_second : Nat → Int32) (f_this_now_months : Nat → Int32) (f_this_now_days : Nat → Int32) (f_this_now_seconds : Nat → Int32) (f_this_kept_day : Nat → Int32) (f_this_kept_second : Nat → Int32) (f_this_kept_months : Nat → Int32) (f_this_kept_days : Nat → Int32) (f_this_kept_seconds : Nat → Int32) (r : Int32) (o_i_this : Int32) (o_f_this_kept_day : Nat → Int32) (o_f_this_kept_second : Nat → Int32) (o_f_this_kept_months : Nat → Int32) (o_f_this_kept_days : Nat → Int32) (o_f_this_kept_seconds : Nat → Int32) (hf : fX9_keeps N i_this f_this_now_day f_this_now_second f_this_now_months f_this_now_days f_this_now_seconds f_this_kept_day f_this_kept_second f_this_kept_months f_this_kept_days f_this_kept_seconds = some (r, o_i_this, o_f_this_kept_day, o_f_this_kept_second, o_f_this_kept_months, o_f_this_kept_days, o_f_this_kept_seconds)) : MI l yX9_keeps (kws yX9_keeps cX9_keeps 1 (some .boolean)) (kR 3 66) (dC, dI) (kT cI cJ cB) [.ref h_this] [cl_X9 h_this h_this_now h_this_kept h_this_told h_this_text h_this_script h_this_momentReader h_this_spanReader h_this_adder h_this_other h_this_trial h_this_ways i_this, cl_X4 h_this_now h_this_now_day h_this_now_second h_this_now_months h_this_now_days h_this_now_seconds, (h_this_now_day, .inl (cI, 8, .inl f_this_now_day)), (h_this_now_second, .inl (cI, 8, .inl f_this_now_second)), (h_this_now_months, .inl (cI, 8, .inl f_this_now_months)), (h_this_now_days, .inl (cI, 8, .inl f_this_now_days)), (h_this_now_seconds, .inl (cI, 8, .inl f_this_now_seconds)), cl_X4 h_this_kept h_this_kept_day h_this_kept_second h_this_kept_months h_this_kept_days h_this_kept_seconds, (h_this_kept_day, .inl (cI, 8, .inl f_this_kept_day)), (h_this_kept_second, .inl (cI, 8, .inl f_this_kept_second)), (h_this_kept_months, .inl (cI, 8, .inl f_this_kept_months)), (h_this_kept_days, .inl (cI, 8, .inl f_this_kept_days)), (h_this_kept_seconds, .inl (cI, 8, .inl f_this_kept_seconds))] [cl_X9 h_this h_this_now h_this_kept h_this_told h_this_text h_this_script h_this_momentReader h_this_spanReader h_this_adder h_this_other h_this_trial h_this_ways o_i_this, cl_X4 h_this_now h_this_now_day h_this_now_second h_this_now_months h_this_now_days h_this_now_seconds, (h_this_now_day, .inl (cI, 8, .inl f_this_now_day)), (h_this_now_second, .inl (cI, 8, .inl f_this_now_second)), (h_this_now_months, .inl (cI, 8, .inl f_this_now_months)), (h_this_now_days, .inl (cI, 8, .inl f_this_now_days)), (h_this_now_seconds, .inl (cI, 8, .inl f_this_now_seconds)), cl_X4 h_this_kept h_this_kept_day h_this_kept_second h_this_kept_months h_this_kept_days h_this_kept_seconds, (h_this_kept_day, .inl (cI, 8, .inl o_f_this_kept_day)), (h_this_kept_second, .inl (cI, 8, .inl o_f_this_kept_second)), (h_this_kept_months, .inl (cI, 8, .inl o_f_this_kept_months)), (h_this_kept_days, .inl (cI, 8, .inl o_f_this_kept_days)), (h_this_kept_seconds, .inl (cI, 8, .inl o_f_this_kept_seconds))] r := by
  refine MI.of (cc := cX9_keeps) (maxL := 1) (by decide) (Nat.le_of_ble_eq_true rfl) (fun p e s m args below meth c A Q ls KC hN hK hP hD hA hl hEnd => ?_)
  obtain ⟨hx, hb, hml, hown, hts⟩ := KC
  have hown : s.vm.findClass "DateSpans" = some m.cls := hown
  have hl : lv_has ls 1 [(0, .ref h_this)] := hl
  have hS : va_S A s.heap s.heap [] := va_S.rf
  have h := hf
  unfold fX9_keeps at h
  refine lv_aload_n hx hb dX9_keeps_0 rfl (lv_at hl 0 rfl) ?_
  refine va_get (D := (dC, dI)) (ci := 8) (v := .ref h_this_kept) (C := RX9) (T := TX9) (N := 12) hx hb hts inX9 hown hK hP 0 rfl rfl 1 (by decide) (hts _ (kq q_293 rfl)) (fun _ h9 => h9) rfl dX9_keeps_1 ?_
  refine lv_aload_n hx hb dX9_keeps_4 rfl (lv_at hl 0 rfl) ?_
  refine va_get (D := (dC, dI)) (ci := 8) (v := .ref h_this_now) (C := RX9) (T := TX9) (N := 12) hx hb hts inX9 hown hK hP 0 rfl rfl 0 (by decide) (hts _ (kq q_292 rfl)) (fun _ h9 => h9) rfl dX9_keeps_5 ?_
  obtain ⟨f_this_kept_day_1, f_this_kept_second_2, f_this_kept_months_3, f_this_kept_days_4, f_this_kept_seconds_5, hc6, h⟩ := bd5_at h
  refine kjV (kV (own := "DateSpans") (C := "DateSpans$Slots") (b := h_this_kept) (As := [.ref h_this_now]) (rest := []) ⟨hx, hb, hml, hown, hts⟩ (kX4_becomes l dC dI cI cJ cB h_this_kept h_this_kept_day h_this_kept_second h_this_kept_months h_this_kept_days h_this_kept_seconds h_this_now h_this_now_day h_this_now_second h_this_now_months h_this_now_days h_this_now_seconds N f_this_kept_day f_this_kept_second f_this_kept_months f_this_kept_days f_this_kept_seconds f_this_now_day f_this_now_second f_this_now_months f_this_now_days f_this_now_seconds f_this_kept_day_1 f_this_kept_second_2 f_this_kept_months_3 f_this_kept_days_4 f_this_kept_seconds_5 hc6 _) (kgV (kq q_882 rfl) (kq q_883 rfl) (kq q_884 rfl) (kq q_58 rfl) (kq q_885 rfl)) yd_X4_becomes ⟨Nat.le_of_ble_eq_true rfl, Nat.le_of_ble_eq_true rfl⟩ hN hK hP hD [7, 8, 9, 10, 11, 12, 1, 2, 3, 4, 5, 6] rfl rfl (ci := 3) rfl rfl rfl rfl rfl hl.1 rfl (lv_room (Nat.le_of_ble_eq_true rfl)) dX9_keeps_8) hP hD hS hA [7, 8, 9, 10, 11, 12, 1, 2, 3, 4, 5, 6] rfl rfl (fun H locs hP hD hS => ?_)
  have hP : va_P (dC, dI) vwCl [cl_X9 h_this h_this_now h_this_kept h_this_told h_this_text h_this_script h_this_momentReader h_this_spanReader h_this_adder h_this_other h_this_trial h_this_ways i_this, cl_X4 h_this_now h_this_now_day h_this_now_second h_this_now_months h_this_now_days h_this_now_seconds, (h_this_now_day, .inl (cI, 8, .inl f_this_now_day)), (h_this_now_second, .inl (cI, 8, .inl f_this_now_second)), (h_this_now_months, .inl (cI, 8, .inl f_this_now_months)), (h_this_now_days, .inl (cI, 8, .inl f_this_now_days)), (h_this_now_seconds, .inl (cI, 8, .inl f_this_now_seconds)), cl_X4 h_this_kept h_this_kept_day h_this_kept_second h_this_kept_months h_this_kept_days h_this_kept_seconds, (h_this_kept_day, .inl (cI, 8, .inl f_this_kept_day_1)), (h_this_kept_second, .inl (cI, 8, .inl f_this_kept_second_2)), (h_this_kept_months, .inl (cI, 8, .inl f_this_kept_months_3)), (h_this_kept_days, .inl (cI, 8, .inl f_this_kept_days_4)), (h_this_kept_seconds, .inl (cI, 8, .inl f_this_kept_seconds_5))] H := hP
  have hD : va_D A [cl_X9 h_this h_this_now h_this_kept h_this_told h_this_text h_this_script h_this_momentReader h_this_spanReader h_this_adder h_this_other h_this_trial h_this_ways i_this, cl_X4 h_this_now h_this_now_day h_this_now_second h_this_now_months h_this_now_days h_this_now_seconds, (h_this_now_day, .inl (cI, 8, .inl f_this_now_day)), (h_this_now_second, .inl (cI, 8, .inl f_this_now_second)), (h_this_now_months, .inl (cI, 8, .inl f_this_now_months)), (h_this_now_days, .inl (cI, 8, .inl f_this_now_days)), (h_this_now_seconds, .inl (cI, 8, .inl f_this_now_seconds)), cl_X4 h_this_kept h_this_kept_day h_this_kept_second h_this_kept_months h_this_kept_days h_this_kept_seconds, (h_this_kept_day, .inl (cI, 8, .inl f_this_kept_day_1)), (h_this_kept_second, .inl (cI, 8, .inl f_this_kept_second_2)), (h_this_kept_months, .inl (cI, 8, .inl f_this_kept_months_3)), (h_this_kept_days, .inl (cI, 8, .inl f_this_kept_days_4)), (h_this_kept_seconds, .inl (cI, 8, .inl f_this_kept_seconds_5))] := hD
  refine lv_aload_n hx hb dX9_keeps_11 rfl (lv_at hl 0 rfl) ?_
  refine lv_iconst (v := (1 : Int32)) hx hb dX9_keeps_12 (by decide) ?_
  refine va_put (D := (dC, dI)) (ci := 8) (v := .int (1 : Int32)) (ty := .boolean) (C := RX9) (T := TX9) (N := 12) hx hb hts inX9 tyX9 tyX9_ok nmX9 hown hK hP hD hS 0 rfl rfl 2 (by decide) (hts _ (kq q_294 rfl)) (fun _ h9 => h9) rfl (by decide +kernel) rfl rfl (Nat.le_of_ble_eq_true rfl) dX9_keeps_13 (fun H locs hP hD hS => ?_)
  have hP : va_P (dC, dI) vwCl [cl_X9 h_this h_this_now h_this_kept h_this_told h_this_text h_this_script h_this_momentReader h_this_spanReader h_this_adder h_this_other h_this_trial h_this_ways (1 : Int32), cl_X4 h_this_now h_this_now_day h_this_now_second h_this_now_months h_this_now_days h_this_now_seconds, (h_this_now_day, .inl (cI, 8, .inl f_this_now_day)), (h_this_now_second, .inl (cI, 8, .inl f_this_now_second)), (h_this_now_months, .inl (cI, 8, .inl f_this_now_months)), (h_this_now_days, .inl (cI, 8, .inl f_this_now_days)), (h_this_now_seconds, .inl (cI, 8, .inl f_this_now_seconds)), cl_X4 h_this_kept h_this_kept_day h_this_kept_second h_this_kept_months h_this_kept_days h_this_kept_seconds, (h_this_kept_day, .inl (cI, 8, .inl f_this_kept_day_1)), (h_this_kept_second, .inl (cI, 8, .inl f_this_kept_second_2)), (h_this_kept_months, .inl (cI, 8, .inl f_this_kept_months_3)), (h_this_kept_days, .inl (cI, 8, .inl f_this_kept_days_4)), (h_this_kept_seconds, .inl (cI, 8, .inl f_this_kept_seconds_5))] H := hP
  have hD : va_D A [cl_X9 h_this h_this_now h_this_kept h_this_told h_this_text h_this_script h_this_momentReader h_this_spanReader h_this_adder h_this_other h_this_trial h_this_ways (1 : Int32), cl_X4 h_this_now h_this_now_day h_this_now_second h_this_now_months h_this_now_days h_this_now_seconds, (h_this_now_day, .inl (cI, 8, .inl f_this_now_day)), (h_this_now_second, .inl (cI, 8, .inl f_this_now_second)), (h_this_now_months, .inl (cI, 8, .inl f_this_now_months)), (h_this_now_days, .inl (cI, 8, .inl f_this_now_days)), (h_this_now_seconds, .inl (cI, 8, .inl f_this_now_seconds)), cl_X4 h_this_kept h_this_kept_day h_this_kept_second h_this_kept_months h_this_kept_days h_this_kept_seconds, (h_this_kept_day, .inl (cI, 8, .inl f_this_kept_day_1)), (h_this_kept_second, .inl (cI, 8, .inl f_this_kept_second_2)), (h_this_kept_months, .inl (cI, 8, .inl f_this_kept_months_3)), (h_this_kept_days, .inl (cI, 8, .inl f_this_kept_days_4)), (h_this_kept_seconds, .inl (cI, 8, .inl f_this_kept_seconds_5))] := hD
  refine lv_iconst (v := (1 : Int32)) hx hb dX9_keeps_16 (by decide) ?_
  obtain ⟨rfl, rfl, rfl, rfl, rfl, rfl, rfl⟩ := pj7 h
  exact hEnd _ _ _ _ hP hS dX9_keeps_17 rfl
noncomputable def fX9_back (N : Nat) (i_this : Int32) (f_this_now_day : Nat → Int32) (f_this_now_second : Nat → Int32) (f_this_now_months : Nat → Int32) (f_this_now_days : Nat → Int32) (f_this_now_seconds : Nat → Int32) (f_this_kept_day : Nat → Int32) (f_this_kept_second : Nat → Int32) (f_this_kept_months : Nat → Int32) (f_this_kept_days : Nat → Int32) (f_this_kept_seconds : Nat → Int32) : Option (Int32 × (Nat → Int32) × (Nat → Int32) × (Nat → Int32) × (Nat → Int32) × (Nat → Int32)) := (if i_this = (0 : Int32) then (some ((0 : Int32), f_this_now_day, f_this_now_second, f_this_now_months, f_this_now_days, f_this_now_seconds)) else (bd5 (fX4_becomes N f_this_now_day f_this_now_second f_this_now_months f_this_now_days f_this_now_seconds f_this_kept_day f_this_kept_second f_this_kept_months f_this_kept_days f_this_kept_seconds) fun f_this_now_day_2 f_this_now_second_3 f_this_now_months_4 f_this_now_days_5 f_this_now_seconds_6 => (some ((1 : Int32), f_this_now_day_2, f_this_now_second_3, f_this_now_months_4, f_this_now_days_5, f_this_now_seconds_6))))
set_option maxHeartbeats 4000000 in
set_option maxRecDepth 100000 in
theorem kX9_back (l : Launch) (dC : Nat → ClassId) (dI : Nat → Nat → Nat) (cI cJ cB : ClassId) (h_this h_this_now h_this_kept h_this_told h_this_text h_this_script h_this_momentReader h_this_spanReader h_this_adder h_this_other h_this_trial h_this_ways h_this_now_day h_this_now_second h_this_now_months h_this_now_days h_this_now_seconds h_this_kept_day h_this_kept_second h_this_kept_months h_this_kept_days h_this_kept_seconds : Nat) (N : Nat) (i_this : Int32) (f_this_now_day : Nat → Int32) (f_this_now_second : Nat → Int32) (f_this_now_months : Nat → Int32) (f_this_now_days : Nat → Int32) (f_this_now_seconds : Nat → Int32) (f_this_kept_day : Nat → Int32) (f_this_kept_second : Nat → Int32) (f_this_kept_months : Nat → Int32) (f_this_kept_days : Nat → Int32) (f_this_kept_seconds : Nat → Int32) (r : Int32) (o_f_this_now_day : Nat → Int32) (o_f_this_now_second : Nat → Int32) (o_f_this_now_months : Nat → Int32) (o_f_this_now_days : Nat → Int32) (o_f_this_now_seconds : Nat → Int32) (hf : fX9_back N i_this f_this_now_day f_this_now_second f_this_now_months f_this_now_days f_this_now_seconds f_this_kept_day f_this_kept_second f_this_kept_months f_this_kept_days f_this_kept_seconds = some (r, o_f_this_now_day, o_f_this_now_second, o_f_this_now_months, o_f_this_now_days, o_f_this_now_seconds)) : MI l yX9_back (kws yX9_back cX9_back 1 (some .boolean)) (kR 3 66) (dC, dI) (kT cI cJ cB) [.ref h_this] [cl_X9 h_this h_this_now h_this_kept h_this_told h_this_text h_this_script h_this_momentReader h_this_spanReader h_this_adder h_this_other h_this_trial h_this_ways i_this, cl_X4 h_this_now h_this_now_day h_this_now_second h_this_now_months h_this_now_days h_this_now_seconds, (h_this_now_day, .inl (cI, 8, .inl f_this_now_day)), (h_this_now_second, .inl (cI, 8, .inl f_this_now_second)), (h_this_now_months, .inl (cI, 8, .inl f_this_now_months)), (h_this_now_days, .inl (cI, 8, .inl f_this_now_days)), (h_this_now_seconds, .inl (cI, 8, .inl f_this_now_seconds)), cl_X4 h_this_kept h_this_kept_day h_this_kept_second h_this_kept_months h_this_kept_days h_this_kept_seconds, (h_this_kept_day, .inl (cI, 8, .inl f_this_kept_day)), (h_this_kept_second, .inl (cI, 8, .inl f_this_kept_second)), (h_this_kept_months, .inl (cI, 8, .inl f_this_kept_months)), (h_this_kept_days, .inl (cI, 8, .inl f_this_kept_days)), (h_this_kept_seconds, .inl (cI, 8, .inl f_this_kept_seconds))] [cl_X9 h_this h_this_now h_this_kept h_this_told h_this_text h_this_script h_this_momentReader h_this_spanReader h_this_adder h_this_other h_this_trial h_this_ways i_this, cl_X4 h_this_now h_this_now_day h_this_now_second h_this_now_months h_this_now_days h_this_now_seconds, (h_this_now_day, .inl (cI, 8, .inl o_f_this_now_day)), (h_this_now_second, .inl (cI, 8, .inl o_f_this_now_second)), (h_this_now_months, .inl (cI, 8, .inl o_f_this_now_months)), (h_this_now_days, .inl (cI, 8, .inl o_f_this_now_days)), (h_this_now_seconds, .inl (cI, 8, .inl o_f_this_now_seconds)), cl_X4 h_this_kept h_this_kept_day h_this_kept_second h_this_kept_months h_this_kept_days h_this_kept_seconds, (h_this_kept_day, .inl (cI, 8, .inl f_this_kept_day)), (h_this_kept_second, .inl (cI, 8, .inl f_this_kept_second)), (h_this_kept_months, .inl (cI, 8, .inl f_this_kept_months)), (h_this_kept_days, .inl (cI, 8, .inl f_this_kept_days)), (h_this_kept_seconds, .inl (cI, 8, .inl f_this_kept_seconds))] r := by
  refine MI.of (cc := cX9_back) (maxL := 1) (by decide) (Nat.le_of_ble_eq_true rfl) (fun p e s m args below meth c A Q ls KC hN hK hP hD hA hl hEnd => ?_)
  obtain ⟨hx, hb, hml, hown, hts⟩ := KC
  have hown : s.vm.findClass "DateSpans" = some m.cls := hown
  have hl : lv_has ls 1 [(0, .ref h_this)] := hl
  have hS : va_S A s.heap s.heap [] := va_S.rf
  have h := hf
  unfold fX9_back at h
  refine lv_aload_n hx hb dX9_back_0 rfl (lv_at hl 0 rfl) ?_
  refine va_get (D := (dC, dI)) (ci := 8) (v := .int i_this) (C := RX9) (T := TX9) (N := 12) hx hb hts inX9 hown hK hP 0 rfl rfl 2 (by decide) (hts _ (kq q_294 rfl)) (fun _ h9 => h9) rfl dX9_back_1 ?_
  refine lv_if_ne (tgt := 9) hx hb dX9_back_4 (by decide) (fun c1 => ?_) (fun c1 => ?_)
  · have h := ite_f c1 h
    refine lv_aload_n hx hb dX9_back_9 rfl (lv_at hl 0 rfl) ?_
    refine va_get (D := (dC, dI)) (ci := 8) (v := .ref h_this_now) (C := RX9) (T := TX9) (N := 12) hx hb hts inX9 hown hK hP 0 rfl rfl 0 (by decide) (hts _ (kq q_292 rfl)) (fun _ h9 => h9) rfl dX9_back_10 ?_
    refine lv_aload_n hx hb dX9_back_13 rfl (lv_at hl 0 rfl) ?_
    refine va_get (D := (dC, dI)) (ci := 8) (v := .ref h_this_kept) (C := RX9) (T := TX9) (N := 12) hx hb hts inX9 hown hK hP 0 rfl rfl 1 (by decide) (hts _ (kq q_293 rfl)) (fun _ h9 => h9) rfl dX9_back_14 ?_
    obtain ⟨f_this_now_day_2, f_this_now_second_3, f_this_now_months_4, f_this_now_days_5, f_this_now_seconds_6, hc7, h⟩ := bd5_at h
    refine kjV (kV (own := "DateSpans") (C := "DateSpans$Slots") (b := h_this_now) (As := [.ref h_this_kept]) (rest := []) ⟨hx, hb, hml, hown, hts⟩ (kX4_becomes l dC dI cI cJ cB h_this_now h_this_now_day h_this_now_second h_this_now_months h_this_now_days h_this_now_seconds h_this_kept h_this_kept_day h_this_kept_second h_this_kept_months h_this_kept_days h_this_kept_seconds N f_this_now_day f_this_now_second f_this_now_months f_this_now_days f_this_now_seconds f_this_kept_day f_this_kept_second f_this_kept_months f_this_kept_days f_this_kept_seconds f_this_now_day_2 f_this_now_second_3 f_this_now_months_4 f_this_now_days_5 f_this_now_seconds_6 hc7 _) (kgV (kq q_882 rfl) (kq q_883 rfl) (kq q_884 rfl) (kq q_58 rfl) (kq q_885 rfl)) yd_X4_becomes ⟨Nat.le_of_ble_eq_true rfl, Nat.le_of_ble_eq_true rfl⟩ hN hK hP hD [1, 2, 3, 4, 5, 6, 7, 8, 9, 10, 11, 12] rfl rfl (ci := 3) rfl rfl rfl rfl rfl hl.1 rfl (lv_room (Nat.le_of_ble_eq_true rfl)) dX9_back_17) hP hD hS hA [1, 2, 3, 4, 5, 6, 7, 8, 9, 10, 11, 12] rfl rfl (fun H locs hP hD hS => ?_)
    have hP : va_P (dC, dI) vwCl [cl_X9 h_this h_this_now h_this_kept h_this_told h_this_text h_this_script h_this_momentReader h_this_spanReader h_this_adder h_this_other h_this_trial h_this_ways i_this, cl_X4 h_this_now h_this_now_day h_this_now_second h_this_now_months h_this_now_days h_this_now_seconds, (h_this_now_day, .inl (cI, 8, .inl f_this_now_day_2)), (h_this_now_second, .inl (cI, 8, .inl f_this_now_second_3)), (h_this_now_months, .inl (cI, 8, .inl f_this_now_months_4)), (h_this_now_days, .inl (cI, 8, .inl f_this_now_days_5)), (h_this_now_seconds, .inl (cI, 8, .inl f_this_now_seconds_6)), cl_X4 h_this_kept h_this_kept_day h_this_kept_second h_this_kept_months h_this_kept_days h_this_kept_seconds, (h_this_kept_day, .inl (cI, 8, .inl f_this_kept_day)), (h_this_kept_second, .inl (cI, 8, .inl f_this_kept_second)), (h_this_kept_months, .inl (cI, 8, .inl f_this_kept_months)), (h_this_kept_days, .inl (cI, 8, .inl f_this_kept_days)), (h_this_kept_seconds, .inl (cI, 8, .inl f_this_kept_seconds))] H := hP
    have hD : va_D A [cl_X9 h_this h_this_now h_this_kept h_this_told h_this_text h_this_script h_this_momentReader h_this_spanReader h_this_adder h_this_other h_this_trial h_this_ways i_this, cl_X4 h_this_now h_this_now_day h_this_now_second h_this_now_months h_this_now_days h_this_now_seconds, (h_this_now_day, .inl (cI, 8, .inl f_this_now_day_2)), (h_this_now_second, .inl (cI, 8, .inl f_this_now_second_3)), (h_this_now_months, .inl (cI, 8, .inl f_this_now_months_4)), (h_this_now_days, .inl (cI, 8, .inl f_this_now_days_5)), (h_this_now_seconds, .inl (cI, 8, .inl f_this_now_seconds_6)), cl_X4 h_this_kept h_this_kept_day h_this_kept_second h_this_kept_months h_this_kept_days h_this_kept_seconds, (h_this_kept_day, .inl (cI, 8, .inl f_this_kept_day)), (h_this_kept_second, .inl (cI, 8, .inl f_this_kept_second)), (h_this_kept_months, .inl (cI, 8, .inl f_this_kept_months)), (h_this_kept_days, .inl (cI, 8, .inl f_this_kept_days)), (h_this_kept_seconds, .inl (cI, 8, .inl f_this_kept_seconds))] := hD
    refine lv_iconst (v := (1 : Int32)) hx hb dX9_back_20 (by decide) ?_
    obtain ⟨rfl, rfl, rfl, rfl, rfl, rfl⟩ := pj6 h
    exact hEnd _ _ _ _ hP hS dX9_back_21 rfl
  have h := ite_t c1 h
  refine lv_iconst (v := (0 : Int32)) hx hb dX9_back_7 (by decide) ?_
  obtain ⟨rfl, rfl, rfl, rfl, rfl, rfl⟩ := pj6 h
  exact hEnd _ _ _ _ hP hS dX9_back_8 rfl
noncomputable def fX9_usedSlots_j73 (N : Nat) (i_this : Int32) (f_this_now_day : Nat → Int32) (f_this_now_second : Nat → Int32) (f_this_now_months : Nat → Int32) (f_this_now_days : Nat → Int32) (f_this_now_seconds : Nat → Int32) (K_4 : Int32 → Int32 → Int32 → Option (Int32)) (v1 : Int32) (v2 : Int32) (v3 : Int32) (t0 : Int32) : Option (Int32) := (if t0 = (0 : Int32) then (nm (v3 + (1 : Int32)) fun z2 => (K_4 v1 v2 z2)) else (nm (v2 ||| ((1 : Int32) <<< (v3 &&& 31))) fun z3 => (nm (v3 + (1 : Int32)) fun z4 => (K_4 v1 z3 z4))))
noncomputable def fX9_usedSlots_l4 (N : Nat) (i_this : Int32) (f_this_now_day : Nat → Int32) (f_this_now_second : Nat → Int32) (f_this_now_months : Nat → Int32) (f_this_now_days : Nat → Int32) (f_this_now_seconds : Nat → Int32) (n : Nat) : Int32 → Int32 → Int32 → Option (Int32) := Nat.rec (motive := fun _ => Int32 → Int32 → Int32 → Option (Int32)) (fun _ _ _ => none) (fun _ K_4 v1 v2 v3 => (if (8 : Int32) ≤ v3 then (some v2) else (if v1 = (0 : Int32) then (bd1 (fX4_instantAt N v3 f_this_now_day f_this_now_second) fun r7 => (if (lg_cmp r7 (0 : Int64)) = (0 : Int32) then (fX9_usedSlots_j73 N i_this f_this_now_day f_this_now_second f_this_now_months f_this_now_days f_this_now_seconds K_4 v1 v2 v3 (0 : Int32)) else (fX9_usedSlots_j73 N i_this f_this_now_day f_this_now_second f_this_now_months f_this_now_days f_this_now_seconds K_4 v1 v2 v3 (1 : Int32)))) else (bd1 (fX4_monthsAt N v3 f_this_now_months) fun r10 => (if r10 = (0 : Int32) then (bd1 (fX4_daysAt N v3 f_this_now_days) fun r13 => (if r13 = (0 : Int32) then (bd1 (fX4_secondsAt N v3 f_this_now_seconds) fun r16 => (if r16 = (0 : Int32) then (fX9_usedSlots_j73 N i_this f_this_now_day f_this_now_second f_this_now_months f_this_now_days f_this_now_seconds K_4 v1 v2 v3 (0 : Int32)) else (fX9_usedSlots_j73 N i_this f_this_now_day f_this_now_second f_this_now_months f_this_now_days f_this_now_seconds K_4 v1 v2 v3 (1 : Int32)))) else (fX9_usedSlots_j73 N i_this f_this_now_day f_this_now_second f_this_now_months f_this_now_days f_this_now_seconds K_4 v1 v2 v3 (1 : Int32)))) else (fX9_usedSlots_j73 N i_this f_this_now_day f_this_now_second f_this_now_months f_this_now_days f_this_now_seconds K_4 v1 v2 v3 (1 : Int32))))))) n
theorem fX9_usedSlots_l4_s (N : Nat) (i_this : Int32) (f_this_now_day : Nat → Int32) (f_this_now_second : Nat → Int32) (f_this_now_months : Nat → Int32) (f_this_now_days : Nat → Int32) (f_this_now_seconds : Nat → Int32) (n : Nat) (v1 : Int32) (v2 : Int32) (v3 : Int32) : fX9_usedSlots_l4 N i_this f_this_now_day f_this_now_second f_this_now_months f_this_now_days f_this_now_seconds (n + 1) v1 v2 v3 = (if (8 : Int32) ≤ v3 then (some v2) else (if v1 = (0 : Int32) then (bd1 (fX4_instantAt N v3 f_this_now_day f_this_now_second) fun r7 => (if (lg_cmp r7 (0 : Int64)) = (0 : Int32) then (fX9_usedSlots_j73 N i_this f_this_now_day f_this_now_second f_this_now_months f_this_now_days f_this_now_seconds (fX9_usedSlots_l4 N i_this f_this_now_day f_this_now_second f_this_now_months f_this_now_days f_this_now_seconds n) v1 v2 v3 (0 : Int32)) else (fX9_usedSlots_j73 N i_this f_this_now_day f_this_now_second f_this_now_months f_this_now_days f_this_now_seconds (fX9_usedSlots_l4 N i_this f_this_now_day f_this_now_second f_this_now_months f_this_now_days f_this_now_seconds n) v1 v2 v3 (1 : Int32)))) else (bd1 (fX4_monthsAt N v3 f_this_now_months) fun r10 => (if r10 = (0 : Int32) then (bd1 (fX4_daysAt N v3 f_this_now_days) fun r13 => (if r13 = (0 : Int32) then (bd1 (fX4_secondsAt N v3 f_this_now_seconds) fun r16 => (if r16 = (0 : Int32) then (fX9_usedSlots_j73 N i_this f_this_now_day f_this_now_second f_this_now_months f_this_now_days f_this_now_seconds (fX9_usedSlots_l4 N i_this f_this_now_day f_this_now_second f_this_now_months f_this_now_days f_this_now_seconds n) v1 v2 v3 (0 : Int32)) else (fX9_usedSlots_j73 N i_this f_this_now_day f_this_now_second f_this_now_months f_this_now_days f_this_now_seconds (fX9_usedSlots_l4 N i_this f_this_now_day f_this_now_second f_this_now_months f_this_now_days f_this_now_seconds n) v1 v2 v3 (1 : Int32)))) else (fX9_usedSlots_j73 N i_this f_this_now_day f_this_now_second f_this_now_months f_this_now_days f_this_now_seconds (fX9_usedSlots_l4 N i_this f_this_now_day f_this_now_second f_this_now_months f_this_now_days f_this_now_seconds n) v1 v2 v3 (1 : Int32)))) else (fX9_usedSlots_j73 N i_this f_this_now_day f_this_now_second f_this_now_months f_this_now_days f_this_now_seconds (fX9_usedSlots_l4 N i_this f_this_now_day f_this_now_second f_this_now_months f_this_now_days f_this_now_seconds n) v1 v2 v3 (1 : Int32)))))) := rfl
theorem fX9_usedSlots_l4_0 (N : Nat) (i_this : Int32) (f_this_now_day : Nat → Int32) (f_this_now_second : Nat → Int32) (f_this_now_months : Nat → Int32) (f_this_now_days : Nat → Int32) (f_this_now_seconds : Nat → Int32) (v1 : Int32) (v2 : Int32) (v3 : Int32) : fX9_usedSlots_l4 N i_this f_this_now_day f_this_now_second f_this_now_months f_this_now_days f_this_now_seconds 0 v1 v2 v3 = none := rfl
noncomputable def fX9_usedSlots (N : Nat) (p1 : Int32) (i_this : Int32) (f_this_now_day : Nat → Int32) (f_this_now_second : Nat → Int32) (f_this_now_months : Nat → Int32) (f_this_now_days : Nat → Int32) (f_this_now_seconds : Nat → Int32) : Option (Int32) := (fX9_usedSlots_l4 N i_this f_this_now_day f_this_now_second f_this_now_months f_this_now_days f_this_now_seconds N p1 (0 : Int32) (0 : Int32))
set_option maxHeartbeats 4000000 in
set_option maxRecDepth 100000 in
theorem kX9_usedSlots (l : Launch) (dC : Nat → ClassId) (dI : Nat → Nat → Nat) (cI cJ cB : ClassId) (h_this h_this_now h_this_kept h_this_told h_this_text h_this_script h_this_momentReader h_this_spanReader h_this_adder h_this_other h_this_trial h_this_ways h_this_now_day h_this_now_second h_this_now_months h_this_now_days h_this_now_seconds : Nat) (N : Nat) (p1 : Int32) (i_this : Int32) (f_this_now_day : Nat → Int32) (f_this_now_second : Nat → Int32) (f_this_now_months : Nat → Int32) (f_this_now_days : Nat → Int32) (f_this_now_seconds : Nat → Int32) (r : Int32) (hf : fX9_usedSlots N p1 i_this f_this_now_day f_this_now_second f_this_now_months f_this_now_days f_this_now_seconds = some r) : MI l yX9_usedSlots (kws yX9_usedSlots cX9_usedSlots 5 (some .int)) (kR 3 62) (dC, dI) (kT cI cJ cB) [.ref h_this, .int p1] [cl_X9 h_this h_this_now h_this_kept h_this_told h_this_text h_this_script h_this_momentReader h_this_spanReader h_this_adder h_this_other h_this_trial h_this_ways i_this, cl_X4 h_this_now h_this_now_day h_this_now_second h_this_now_months h_this_now_days h_this_now_seconds, (h_this_now_day, .inl (cI, 8, .inl f_this_now_day)), (h_this_now_second, .inl (cI, 8, .inl f_this_now_second)), (h_this_now_months, .inl (cI, 8, .inl f_this_now_months)), (h_this_now_days, .inl (cI, 8, .inl f_this_now_days)), (h_this_now_seconds, .inl (cI, 8, .inl f_this_now_seconds))] [cl_X9 h_this h_this_now h_this_kept h_this_told h_this_text h_this_script h_this_momentReader h_this_spanReader h_this_adder h_this_other h_this_trial h_this_ways i_this, cl_X4 h_this_now h_this_now_day h_this_now_second h_this_now_months h_this_now_days h_this_now_seconds, (h_this_now_day, .inl (cI, 8, .inl f_this_now_day)), (h_this_now_second, .inl (cI, 8, .inl f_this_now_second)), (h_this_now_months, .inl (cI, 8, .inl f_this_now_months)), (h_this_now_days, .inl (cI, 8, .inl f_this_now_days)), (h_this_now_seconds, .inl (cI, 8, .inl f_this_now_seconds))] r := by
  refine MI.of (cc := cX9_usedSlots) (maxL := 5) (by decide) (Nat.le_of_ble_eq_true rfl) (fun p e s m args below meth c A Q ls KC hN hK hP hD hA hl hEnd => ?_)
  obtain ⟨hx, hb, hml, hown, hts⟩ := KC
  have hown : s.vm.findClass "DateSpans" = some m.cls := hown
  have hl : lv_has ls 5 [(0, .ref h_this), (1, .int p1)] := hl
  have hS : va_S A s.heap s.heap [] := va_S.rf
  have LP_4 : ∀ n_4 : Nat, ∀ (v1 : Int32) (v2 : Int32) (v3 : Int32) (ls : Array Slot) (H : Heap) (locs : List Loc), fX9_usedSlots_l4 N i_this f_this_now_day f_this_now_second f_this_now_months f_this_now_days f_this_now_seconds n_4 v1 v2 v3 = some r → lv_has ls 5 [(0, .ref h_this), (1, .int v1), (2, .int v2), (3, .int v3)] → va_P (dC, dI) vwCl [cl_X9 h_this h_this_now h_this_kept h_this_told h_this_text h_this_script h_this_momentReader h_this_spanReader h_this_adder h_this_other h_this_trial h_this_ways i_this, cl_X4 h_this_now h_this_now_day h_this_now_second h_this_now_months h_this_now_days h_this_now_seconds, (h_this_now_day, .inl (cI, 8, .inl f_this_now_day)), (h_this_now_second, .inl (cI, 8, .inl f_this_now_second)), (h_this_now_months, .inl (cI, 8, .inl f_this_now_months)), (h_this_now_days, .inl (cI, 8, .inl f_this_now_days)), (h_this_now_seconds, .inl (cI, 8, .inl f_this_now_seconds))] H → va_D A [cl_X9 h_this h_this_now h_this_kept h_this_told h_this_text h_this_script h_this_momentReader h_this_spanReader h_this_adder h_this_other h_this_trial h_this_ways i_this, cl_X4 h_this_now h_this_now_day h_this_now_second h_this_now_months h_this_now_days h_this_now_seconds, (h_this_now_day, .inl (cI, 8, .inl f_this_now_day)), (h_this_now_second, .inl (cI, 8, .inl f_this_now_second)), (h_this_now_months, .inl (cI, 8, .inl f_this_now_months)), (h_this_now_days, .inl (cI, 8, .inl f_this_now_days)), (h_this_now_seconds, .inl (cI, 8, .inl f_this_now_seconds))] → va_S A s.heap H locs → W p l e (kR 3 62) s m args below meth c H locs 0 0 Q (F0 m 4 ls []) := by
    intro n_4
    induction n_4 with
    | zero =>
      intro v1 v2 v3 ls H locs h hl hP hD hS
      rw [fX9_usedSlots_l4_0] at h; cases h
    | succ n_4 ih_4 =>
      have JN_73 : ∀ (v1 : Int32) (v2 : Int32) (v3 : Int32) (t0 : Int32) (ls : Array Slot) (H : Heap) (locs : List Loc), (fX9_usedSlots_j73 N i_this f_this_now_day f_this_now_second f_this_now_months f_this_now_days f_this_now_seconds (fX9_usedSlots_l4 N i_this f_this_now_day f_this_now_second f_this_now_months f_this_now_days f_this_now_seconds n_4)) v1 v2 v3 t0 = some r → lv_has ls 5 [(0, .ref h_this), (1, .int v1), (2, .int v2), (3, .int v3)] → va_P (dC, dI) vwCl [cl_X9 h_this h_this_now h_this_kept h_this_told h_this_text h_this_script h_this_momentReader h_this_spanReader h_this_adder h_this_other h_this_trial h_this_ways i_this, cl_X4 h_this_now h_this_now_day h_this_now_second h_this_now_months h_this_now_days h_this_now_seconds, (h_this_now_day, .inl (cI, 8, .inl f_this_now_day)), (h_this_now_second, .inl (cI, 8, .inl f_this_now_second)), (h_this_now_months, .inl (cI, 8, .inl f_this_now_months)), (h_this_now_days, .inl (cI, 8, .inl f_this_now_days)), (h_this_now_seconds, .inl (cI, 8, .inl f_this_now_seconds))] H → va_D A [cl_X9 h_this h_this_now h_this_kept h_this_told h_this_text h_this_script h_this_momentReader h_this_spanReader h_this_adder h_this_other h_this_trial h_this_ways i_this, cl_X4 h_this_now h_this_now_day h_this_now_second h_this_now_months h_this_now_days h_this_now_seconds, (h_this_now_day, .inl (cI, 8, .inl f_this_now_day)), (h_this_now_second, .inl (cI, 8, .inl f_this_now_second)), (h_this_now_months, .inl (cI, 8, .inl f_this_now_months)), (h_this_now_days, .inl (cI, 8, .inl f_this_now_days)), (h_this_now_seconds, .inl (cI, 8, .inl f_this_now_seconds))] → va_S A s.heap H locs → W p l e (kR 3 62) s m args below meth c H locs 0 0 Q (F0 m 73 ls [.int t0]) := by
        intro v1 v2 v3 t0 ls H locs h hl hP hD hS
        unfold fX9_usedSlots_j73 at h
        refine lv_istore (lv' := [(4, .int t0), (0, .ref h_this), (1, .int v1), (2, .int v2), (3, .int v3)]) hx hb dX9_usedSlots_73 hl (by decide) rfl (fun ls hl => ?_)
        refine lv_iload hx hb dX9_usedSlots_75 (lv_at hl 0 rfl) ?_
        refine lv_if_eq (tgt := 86) hx hb dX9_usedSlots_77 (by decide) (fun c1 => ?_) (fun c1 => ?_)
        · have h := ite_t c1 h
          obtain ⟨z2, ez2⟩ : ∃ y : Int32, y = (v3 + (1 : Int32)) := ⟨_, rfl⟩
          have h := nm_at ez2 h
          refine lv_iinc (v := z2) (lv' := [(3, .int z2), (4, .int t0), (0, .ref h_this), (1, .int v1), (2, .int v2)]) hx hb dX9_usedSlots_86 hl (k := 4) rfl (by rw [ez2]; rfl) (by decide) rfl (fun ls hl => ?_)
          refine lv_goto (tgt := 4) hx hb dX9_usedSlots_89 (by decide) ?_
          exact ih_4 _ _ _ _ _ _ h (lv_sub hl [2, 3, 4, 0] rfl) hP hD hS
        have h := ite_f c1 h
        refine lv_iload_n hx hb dX9_usedSlots_80 rfl (lv_at hl 3 rfl) ?_
        refine lv_iconst (v := (1 : Int32)) hx hb dX9_usedSlots_81 (by decide) ?_
        refine lv_iload_n hx hb dX9_usedSlots_82 rfl (lv_at hl 4 rfl) ?_
        refine lv_ishl hx hb dX9_usedSlots_83 ?_
        refine lv_ior hx hb dX9_usedSlots_84 ?_
        refine lv_topi (fun z3 ez3 => ?_)
        have h := nm_at ez3 h
        refine lv_istore_n (lv' := [(2, .int z3), (4, .int t0), (0, .ref h_this), (1, .int v1), (3, .int v3)]) hx hb dX9_usedSlots_85 rfl hl (by decide) rfl (fun ls hl => ?_)
        obtain ⟨z4, ez4⟩ : ∃ y : Int32, y = (v3 + (1 : Int32)) := ⟨_, rfl⟩
        have h := nm_at ez4 h
        refine lv_iinc (v := z4) (lv' := [(3, .int z4), (2, .int z3), (4, .int t0), (0, .ref h_this), (1, .int v1)]) hx hb dX9_usedSlots_86 hl (k := 4) rfl (by rw [ez4]; rfl) (by decide) rfl (fun ls hl => ?_)
        refine lv_goto (tgt := 4) hx hb dX9_usedSlots_89 (by decide) ?_
        exact ih_4 _ _ _ _ _ _ h (lv_sub hl [3, 4, 1, 0] rfl) hP hD hS
      intro v1 v2 v3 ls H locs h hl hP hD hS
      rw [fX9_usedSlots_l4_s] at h
      refine lv_iload_n hx hb dX9_usedSlots_4 rfl (lv_at hl 3 rfl) ?_
      refine lv_bipush (v := (8 : Int32)) hx hb dX9_usedSlots_5 (by decide) ?_
      refine lv_icmp_ge (tgt := 92) hx hb dX9_usedSlots_7 (by decide) (fun c5 => ?_) (fun c5 => ?_)
      · have h := ite_t c5 h
        refine lv_iload_n hx hb dX9_usedSlots_92 rfl (lv_at hl 2 rfl) ?_
        obtain rfl := pj1 h
        exact hEnd _ _ _ _ hP hS dX9_usedSlots_93 rfl
      have h := ite_f c5 h
      refine lv_iload_n hx hb dX9_usedSlots_10 rfl (lv_at hl 1 rfl) ?_
      refine lv_if_eq (tgt := 55) hx hb dX9_usedSlots_11 (by decide) (fun c6 => ?_) (fun c6 => ?_)
      · have h := ite_t c6 h
        refine lv_aload_n hx hb dX9_usedSlots_55 rfl (lv_at hl 0 rfl) ?_
        refine va_get (D := (dC, dI)) (ci := 8) (v := .ref h_this_now) (C := RX9) (T := TX9) (N := 12) hx hb hts inX9 hown hK hP 0 rfl rfl 0 (by decide) (hts _ (kq q_292 rfl)) (fun _ h9 => h9) rfl dX9_usedSlots_56 ?_
        refine lv_iload_n hx hb dX9_usedSlots_59 rfl (lv_at hl 3 rfl) ?_
        obtain ⟨r7, hc8, h⟩ := bd1_at h
        refine kjL (kV (own := "DateSpans") (C := "DateSpans$Slots") (b := h_this_now) (As := [.int v3]) (rest := []) ⟨hx, hb, hml, hown, hts⟩ (kX4_instantAt l dC dI cI cJ cB h_this_now h_this_now_day h_this_now_second h_this_now_months h_this_now_days h_this_now_seconds N v3 f_this_now_day f_this_now_second r7 hc8 _) (kgV (kq q_618 rfl) (kq q_619 rfl) (kq q_620 rfl) (kq q_58 rfl) (kq q_621 rfl)) yd_X4_instantAt ⟨Nat.le_of_ble_eq_true rfl, Nat.le_of_ble_eq_true rfl⟩ hN hK hP hD [1, 2, 3] rfl rfl (ci := 3) rfl rfl rfl rfl rfl hl.1 rfl (lv_room (Nat.le_of_ble_eq_true rfl)) dX9_usedSlots_60) hP hD hS hA [1, 2, 3] rfl rfl (fun H locs hP hD hS => ?_)
        have hP : va_P (dC, dI) vwCl [cl_X9 h_this h_this_now h_this_kept h_this_told h_this_text h_this_script h_this_momentReader h_this_spanReader h_this_adder h_this_other h_this_trial h_this_ways i_this, cl_X4 h_this_now h_this_now_day h_this_now_second h_this_now_months h_this_now_days h_this_now_seconds, (h_this_now_day, .inl (cI, 8, .inl f_this_now_day)), (h_this_now_second, .inl (cI, 8, .inl f_this_now_second)), (h_this_now_months, .inl (cI, 8, .inl f_this_now_months)), (h_this_now_days, .inl (cI, 8, .inl f_this_now_days)), (h_this_now_seconds, .inl (cI, 8, .inl f_this_now_seconds))] H := hP
        have hD : va_D A [cl_X9 h_this h_this_now h_this_kept h_this_told h_this_text h_this_script h_this_momentReader h_this_spanReader h_this_adder h_this_other h_this_trial h_this_ways i_this, cl_X4 h_this_now h_this_now_day h_this_now_second h_this_now_months h_this_now_days h_this_now_seconds, (h_this_now_day, .inl (cI, 8, .inl f_this_now_day)), (h_this_now_second, .inl (cI, 8, .inl f_this_now_second)), (h_this_now_months, .inl (cI, 8, .inl f_this_now_months)), (h_this_now_days, .inl (cI, 8, .inl f_this_now_days)), (h_this_now_seconds, .inl (cI, 8, .inl f_this_now_seconds))] := hD
        refine lv_lconst (v := (0 : Int64)) hx hb dX9_usedSlots_63 (by decide) ?_
        refine W.lcmp hx hb dX9_usedSlots_64 ?_
        refine lv_if_eq (tgt := 72) hx hb dX9_usedSlots_65 (by decide) (fun c9 => ?_) (fun c9 => ?_)
        · have h := ite_t c9 h
          refine lv_iconst (v := (0 : Int32)) hx hb dX9_usedSlots_72 (by decide) ?_
          exact JN_73 _ _ _ _ _ _ _ h (lv_sub hl [0, 1, 2, 3] rfl) hP hD hS
        have h := ite_f c9 h
        refine lv_iconst (v := (1 : Int32)) hx hb dX9_usedSlots_68 (by decide) ?_
        refine lv_goto (tgt := 73) hx hb dX9_usedSlots_69 (by decide) ?_
        exact JN_73 _ _ _ _ _ _ _ h (lv_sub hl [0, 1, 2, 3] rfl) hP hD hS
      have h := ite_f c6 h
      refine lv_aload_n hx hb dX9_usedSlots_14 rfl (lv_at hl 0 rfl) ?_
      refine va_get (D := (dC, dI)) (ci := 8) (v := .ref h_this_now) (C := RX9) (T := TX9) (N := 12) hx hb hts inX9 hown hK hP 0 rfl rfl 0 (by decide) (hts _ (kq q_292 rfl)) (fun _ h9 => h9) rfl dX9_usedSlots_15 ?_
      refine lv_iload_n hx hb dX9_usedSlots_18 rfl (lv_at hl 3 rfl) ?_
      obtain ⟨r10, hc11, h⟩ := bd1_at h
      refine kjI (kV (own := "DateSpans") (C := "DateSpans$Slots") (b := h_this_now) (As := [.int v3]) (rest := []) ⟨hx, hb, hml, hown, hts⟩ (kX4_monthsAt l dC dI cI cJ cB h_this_now h_this_now_day h_this_now_second h_this_now_months h_this_now_days h_this_now_seconds N v3 f_this_now_months r10 hc11 _) (kgV (kq q_490 rfl) (kq q_491 rfl) (kq q_492 rfl) (kq q_58 rfl) (kq q_493 rfl)) yd_X4_monthsAt ⟨Nat.le_of_ble_eq_true rfl, Nat.le_of_ble_eq_true rfl⟩ hN hK hP hD [1, 4] rfl rfl (ci := 3) rfl rfl rfl rfl rfl hl.1 rfl (lv_room (Nat.le_of_ble_eq_true rfl)) dX9_usedSlots_19) hP hD hS hA [1, 4] rfl rfl (fun H locs hP hD hS => ?_)
      have hP : va_P (dC, dI) vwCl [cl_X9 h_this h_this_now h_this_kept h_this_told h_this_text h_this_script h_this_momentReader h_this_spanReader h_this_adder h_this_other h_this_trial h_this_ways i_this, cl_X4 h_this_now h_this_now_day h_this_now_second h_this_now_months h_this_now_days h_this_now_seconds, (h_this_now_day, .inl (cI, 8, .inl f_this_now_day)), (h_this_now_second, .inl (cI, 8, .inl f_this_now_second)), (h_this_now_months, .inl (cI, 8, .inl f_this_now_months)), (h_this_now_days, .inl (cI, 8, .inl f_this_now_days)), (h_this_now_seconds, .inl (cI, 8, .inl f_this_now_seconds))] H := hP
      have hD : va_D A [cl_X9 h_this h_this_now h_this_kept h_this_told h_this_text h_this_script h_this_momentReader h_this_spanReader h_this_adder h_this_other h_this_trial h_this_ways i_this, cl_X4 h_this_now h_this_now_day h_this_now_second h_this_now_months h_this_now_days h_this_now_seconds, (h_this_now_day, .inl (cI, 8, .inl f_this_now_day)), (h_this_now_second, .inl (cI, 8, .inl f_this_now_second)), (h_this_now_months, .inl (cI, 8, .inl f_this_now_months)), (h_this_now_days, .inl (cI, 8, .inl f_this_now_days)), (h_this_now_seconds, .inl (cI, 8, .inl f_this_now_seconds))] := hD
      refine lv_if_ne (tgt := 47) hx hb dX9_usedSlots_22 (by decide) (fun c12 => ?_) (fun c12 => ?_)
      · have h := ite_f c12 h
        refine lv_iconst (v := (1 : Int32)) hx hb dX9_usedSlots_47 (by decide) ?_
        refine lv_goto (tgt := 73) hx hb dX9_usedSlots_48 (by decide) ?_
        exact JN_73 _ _ _ _ _ _ _ h (lv_sub hl [0, 1, 2, 3] rfl) hP hD hS
      have h := ite_t c12 h
      refine lv_aload_n hx hb dX9_usedSlots_25 rfl (lv_at hl 0 rfl) ?_
      refine va_get (D := (dC, dI)) (ci := 8) (v := .ref h_this_now) (C := RX9) (T := TX9) (N := 12) hx hb hts inX9 hown hK hP 0 rfl rfl 0 (by decide) (hts _ (kq q_292 rfl)) (fun _ h9 => h9) rfl dX9_usedSlots_26 ?_
      refine lv_iload_n hx hb dX9_usedSlots_29 rfl (lv_at hl 3 rfl) ?_
      obtain ⟨r13, hc14, h⟩ := bd1_at h
      refine kjI (kV (own := "DateSpans") (C := "DateSpans$Slots") (b := h_this_now) (As := [.int v3]) (rest := []) ⟨hx, hb, hml, hown, hts⟩ (kX4_daysAt l dC dI cI cJ cB h_this_now h_this_now_day h_this_now_second h_this_now_months h_this_now_days h_this_now_seconds N v3 f_this_now_days r13 hc14 _) (kgV (kq q_494 rfl) (kq q_495 rfl) (kq q_496 rfl) (kq q_58 rfl) (kq q_497 rfl)) yd_X4_daysAt ⟨Nat.le_of_ble_eq_true rfl, Nat.le_of_ble_eq_true rfl⟩ hN hK hP hD [1, 5] rfl rfl (ci := 3) rfl rfl rfl rfl rfl hl.1 rfl (lv_room (Nat.le_of_ble_eq_true rfl)) dX9_usedSlots_30) hP hD hS hA [1, 5] rfl rfl (fun H locs hP hD hS => ?_)
      have hP : va_P (dC, dI) vwCl [cl_X9 h_this h_this_now h_this_kept h_this_told h_this_text h_this_script h_this_momentReader h_this_spanReader h_this_adder h_this_other h_this_trial h_this_ways i_this, cl_X4 h_this_now h_this_now_day h_this_now_second h_this_now_months h_this_now_days h_this_now_seconds, (h_this_now_day, .inl (cI, 8, .inl f_this_now_day)), (h_this_now_second, .inl (cI, 8, .inl f_this_now_second)), (h_this_now_months, .inl (cI, 8, .inl f_this_now_months)), (h_this_now_days, .inl (cI, 8, .inl f_this_now_days)), (h_this_now_seconds, .inl (cI, 8, .inl f_this_now_seconds))] H := hP
      have hD : va_D A [cl_X9 h_this h_this_now h_this_kept h_this_told h_this_text h_this_script h_this_momentReader h_this_spanReader h_this_adder h_this_other h_this_trial h_this_ways i_this, cl_X4 h_this_now h_this_now_day h_this_now_second h_this_now_months h_this_now_days h_this_now_seconds, (h_this_now_day, .inl (cI, 8, .inl f_this_now_day)), (h_this_now_second, .inl (cI, 8, .inl f_this_now_second)), (h_this_now_months, .inl (cI, 8, .inl f_this_now_months)), (h_this_now_days, .inl (cI, 8, .inl f_this_now_days)), (h_this_now_seconds, .inl (cI, 8, .inl f_this_now_seconds))] := hD
      refine lv_if_ne (tgt := 47) hx hb dX9_usedSlots_33 (by decide) (fun c15 => ?_) (fun c15 => ?_)
      · have h := ite_f c15 h
        refine lv_iconst (v := (1 : Int32)) hx hb dX9_usedSlots_47 (by decide) ?_
        refine lv_goto (tgt := 73) hx hb dX9_usedSlots_48 (by decide) ?_
        exact JN_73 _ _ _ _ _ _ _ h (lv_sub hl [0, 1, 2, 3] rfl) hP hD hS
      have h := ite_t c15 h
      refine lv_aload_n hx hb dX9_usedSlots_36 rfl (lv_at hl 0 rfl) ?_
      refine va_get (D := (dC, dI)) (ci := 8) (v := .ref h_this_now) (C := RX9) (T := TX9) (N := 12) hx hb hts inX9 hown hK hP 0 rfl rfl 0 (by decide) (hts _ (kq q_292 rfl)) (fun _ h9 => h9) rfl dX9_usedSlots_37 ?_
      refine lv_iload_n hx hb dX9_usedSlots_40 rfl (lv_at hl 3 rfl) ?_
      obtain ⟨r16, hc17, h⟩ := bd1_at h
      refine kjI (kV (own := "DateSpans") (C := "DateSpans$Slots") (b := h_this_now) (As := [.int v3]) (rest := []) ⟨hx, hb, hml, hown, hts⟩ (kX4_secondsAt l dC dI cI cJ cB h_this_now h_this_now_day h_this_now_second h_this_now_months h_this_now_days h_this_now_seconds N v3 f_this_now_seconds r16 hc17 _) (kgV (kq q_498 rfl) (kq q_499 rfl) (kq q_500 rfl) (kq q_58 rfl) (kq q_501 rfl)) yd_X4_secondsAt ⟨Nat.le_of_ble_eq_true rfl, Nat.le_of_ble_eq_true rfl⟩ hN hK hP hD [1, 6] rfl rfl (ci := 3) rfl rfl rfl rfl rfl hl.1 rfl (lv_room (Nat.le_of_ble_eq_true rfl)) dX9_usedSlots_41) hP hD hS hA [1, 6] rfl rfl (fun H locs hP hD hS => ?_)
      have hP : va_P (dC, dI) vwCl [cl_X9 h_this h_this_now h_this_kept h_this_told h_this_text h_this_script h_this_momentReader h_this_spanReader h_this_adder h_this_other h_this_trial h_this_ways i_this, cl_X4 h_this_now h_this_now_day h_this_now_second h_this_now_months h_this_now_days h_this_now_seconds, (h_this_now_day, .inl (cI, 8, .inl f_this_now_day)), (h_this_now_second, .inl (cI, 8, .inl f_this_now_second)), (h_this_now_months, .inl (cI, 8, .inl f_this_now_months)), (h_this_now_days, .inl (cI, 8, .inl f_this_now_days)), (h_this_now_seconds, .inl (cI, 8, .inl f_this_now_seconds))] H := hP
      have hD : va_D A [cl_X9 h_this h_this_now h_this_kept h_this_told h_this_text h_this_script h_this_momentReader h_this_spanReader h_this_adder h_this_other h_this_trial h_this_ways i_this, cl_X4 h_this_now h_this_now_day h_this_now_second h_this_now_months h_this_now_days h_this_now_seconds, (h_this_now_day, .inl (cI, 8, .inl f_this_now_day)), (h_this_now_second, .inl (cI, 8, .inl f_this_now_second)), (h_this_now_months, .inl (cI, 8, .inl f_this_now_months)), (h_this_now_days, .inl (cI, 8, .inl f_this_now_days)), (h_this_now_seconds, .inl (cI, 8, .inl f_this_now_seconds))] := hD
      refine lv_if_eq (tgt := 51) hx hb dX9_usedSlots_44 (by decide) (fun c18 => ?_) (fun c18 => ?_)
      · have h := ite_t c18 h
        refine lv_iconst (v := (0 : Int32)) hx hb dX9_usedSlots_51 (by decide) ?_
        refine lv_goto (tgt := 73) hx hb dX9_usedSlots_52 (by decide) ?_
        exact JN_73 _ _ _ _ _ _ _ h (lv_sub hl [0, 1, 2, 3] rfl) hP hD hS
      have h := ite_f c18 h
      refine lv_iconst (v := (1 : Int32)) hx hb dX9_usedSlots_47 (by decide) ?_
      refine lv_goto (tgt := 73) hx hb dX9_usedSlots_48 (by decide) ?_
      exact JN_73 _ _ _ _ _ _ _ h (lv_sub hl [0, 1, 2, 3] rfl) hP hD hS
  have h := hf
  unfold fX9_usedSlots at h
  refine lv_iconst (v := (0 : Int32)) hx hb dX9_usedSlots_0 (by decide) ?_
  refine lv_istore_n (lv' := [(2, .int (0 : Int32)), (0, .ref h_this), (1, .int p1)]) hx hb dX9_usedSlots_1 rfl hl (by decide) rfl (fun ls hl => ?_)
  refine lv_iconst (v := (0 : Int32)) hx hb dX9_usedSlots_2 (by decide) ?_
  refine lv_istore_n (lv' := [(3, .int (0 : Int32)), (2, .int (0 : Int32)), (0, .ref h_this), (1, .int p1)]) hx hb dX9_usedSlots_3 rfl hl (by decide) rfl (fun ls hl => ?_)
  exact LP_4 N _ _ _ _ _ _ h (lv_sub hl [2, 3, 1, 0] rfl) hP hD hS
noncomputable def fX3_length (N : Nat) (i_this : Int32) : Option (Int32) := (some i_this)
set_option maxHeartbeats 4000000 in
set_option maxRecDepth 100000 in
theorem kX3_length (l : Launch) (dC : Nat → ClassId) (dI : Nat → Nat → Nat) (cI cJ cB : ClassId) (h_this h_this_numbers : Nat) (N : Nat) (i_this : Int32) (r : Int32) (hf : fX3_length N i_this = some r) : MI l yX3_length (kws yX3_length cX3_length 1 (some .int)) (kR 0 0) (dC, dI) (kT cI cJ cB) [.ref h_this] [cl_X3 h_this h_this_numbers i_this] [cl_X3 h_this h_this_numbers i_this] r := by
  refine MI.of (cc := cX3_length) (maxL := 1) (by decide) (Nat.le_of_ble_eq_true rfl) (fun p e s m args below meth c A Q ls KC hN hK hP hD hA hl hEnd => ?_)
  obtain ⟨hx, hb, hml, hown, hts⟩ := KC
  have hown : s.vm.findClass "DateSpans$Row" = some m.cls := hown
  have hl : lv_has ls 1 [(0, .ref h_this)] := hl
  have hS : va_S A s.heap s.heap [] := va_S.rf
  have h := hf
  unfold fX3_length at h
  refine lv_aload_n hx hb dX3_length_0 rfl (lv_at hl 0 rfl) ?_
  refine va_get (D := (dC, dI)) (ci := 2) (v := .int i_this) (C := RX3) (T := TX3) (N := 2) hx hb hts inX3 hown hK hP 0 rfl rfl 1 (by decide) (hts _ (kq q_119 rfl)) (fun _ h9 => h9) rfl dX3_length_1 ?_
  obtain rfl := pj1 h
  exact hEnd _ _ _ _ hP hS dX3_length_4 rfl
noncomputable def fX9_count (N : Nat) (p1 : Int32) (i_this : Int32) (f_this_now_day : Nat → Int32) (f_this_now_second : Nat → Int32) (f_this_now_months : Nat → Int32) (f_this_now_days : Nat → Int32) (f_this_now_seconds : Nat → Int32) (i_this_told : Int32) (i_this_text : Int32) : Option (Int32) := (if p1 = (0 : Int32) then (bd1 (fX9_usedSlots N (0 : Int32) i_this f_this_now_day f_this_now_second f_this_now_months f_this_now_days f_this_now_seconds) fun r2 => (some r2)) else (if p1 = (1 : Int32) then (bd1 (fX9_usedSlots N (1 : Int32) i_this f_this_now_day f_this_now_second f_this_now_months f_this_now_days f_this_now_seconds) fun r5 => (some r5)) else (if p1 = (2 : Int32) then (bd1 (fX3_length N i_this_told) fun r8 => (some r8)) else (if p1 = (3 : Int32) then (bd1 (fX6_length N i_this_text) fun r11 => (some r11)) else (some (-1 : Int32))))))
set_option maxHeartbeats 4000000 in
set_option maxRecDepth 100000 in
theorem kX9_count (l : Launch) (dC : Nat → ClassId) (dI : Nat → Nat → Nat) (cI cJ cB : ClassId) (h_this h_this_now h_this_kept h_this_told h_this_text h_this_script h_this_momentReader h_this_spanReader h_this_adder h_this_other h_this_trial h_this_ways h_this_now_day h_this_now_second h_this_now_months h_this_now_days h_this_now_seconds h_this_told_numbers h_this_text_signs : Nat) (N : Nat) (p1 : Int32) (i_this : Int32) (f_this_now_day : Nat → Int32) (f_this_now_second : Nat → Int32) (f_this_now_months : Nat → Int32) (f_this_now_days : Nat → Int32) (f_this_now_seconds : Nat → Int32) (i_this_told : Int32) (i_this_text : Int32) (r : Int32) (hf : fX9_count N p1 i_this f_this_now_day f_this_now_second f_this_now_months f_this_now_days f_this_now_seconds i_this_told i_this_text = some r) : MI l yX9_count (kws yX9_count cX9_count 2 (some .int)) (kR 4 86) (dC, dI) (kT cI cJ cB) [.ref h_this, .int p1] [cl_X9 h_this h_this_now h_this_kept h_this_told h_this_text h_this_script h_this_momentReader h_this_spanReader h_this_adder h_this_other h_this_trial h_this_ways i_this, cl_X4 h_this_now h_this_now_day h_this_now_second h_this_now_months h_this_now_days h_this_now_seconds, (h_this_now_day, .inl (cI, 8, .inl f_this_now_day)), (h_this_now_second, .inl (cI, 8, .inl f_this_now_second)), (h_this_now_months, .inl (cI, 8, .inl f_this_now_months)), (h_this_now_days, .inl (cI, 8, .inl f_this_now_days)), (h_this_now_seconds, .inl (cI, 8, .inl f_this_now_seconds)), cl_X3 h_this_told h_this_told_numbers i_this_told, cl_X6 h_this_text h_this_text_signs i_this_text] [cl_X9 h_this h_this_now h_this_kept h_this_told h_this_text h_this_script h_this_momentReader h_this_spanReader h_this_adder h_this_other h_this_trial h_this_ways i_this, cl_X4 h_this_now h_this_now_day h_this_now_second h_this_now_months h_this_now_days h_this_now_seconds, (h_this_now_day, .inl (cI, 8, .inl f_this_now_day)), (h_this_now_second, .inl (cI, 8, .inl f_this_now_second)), (h_this_now_months, .inl (cI, 8, .inl f_this_now_months)), (h_this_now_days, .inl (cI, 8, .inl f_this_now_days)), (h_this_now_seconds, .inl (cI, 8, .inl f_this_now_seconds)), cl_X3 h_this_told h_this_told_numbers i_this_told, cl_X6 h_this_text h_this_text_signs i_this_text] r := by
  refine MI.of (cc := cX9_count) (maxL := 2) (by decide) (Nat.le_of_ble_eq_true rfl) (fun p e s m args below meth c A Q ls KC hN hK hP hD hA hl hEnd => ?_)
  obtain ⟨hx, hb, hml, hown, hts⟩ := KC
  have hown : s.vm.findClass "DateSpans" = some m.cls := hown
  have hl : lv_has ls 2 [(0, .ref h_this), (1, .int p1)] := hl
  have hS : va_S A s.heap s.heap [] := va_S.rf
  have h := hf
  unfold fX9_count at h
  refine lv_iload_n hx hb dX9_count_0 rfl (lv_at hl 1 rfl) ?_
  by_cases c1 : p1 = (0 : Int32)
  · have h := ite_t c1 h
    refine lv_tableIn (x := p1) (tgt := 32) hx hb dX9_count_1 (by rw [c1]; decide) (by rw [c1]; decide) (by rw [c1]; rfl) (by decide) ?_
    refine lv_aload_n hx hb dX9_count_32 rfl (lv_at hl 0 rfl) ?_
    refine lv_iconst (v := (0 : Int32)) hx hb dX9_count_33 (by decide) ?_
    obtain ⟨r2, hc3, h⟩ := bd1_at h
    refine kjI (kV (own := "DateSpans") (C := "DateSpans") (b := h_this) (As := [.int (0 : Int32)]) (rest := []) ⟨hx, hb, hml, hown, hts⟩ (kX9_usedSlots l dC dI cI cJ cB h_this h_this_now h_this_kept h_this_told h_this_text h_this_script h_this_momentReader h_this_spanReader h_this_adder h_this_other h_this_trial h_this_ways h_this_now_day h_this_now_second h_this_now_months h_this_now_days h_this_now_seconds N (0 : Int32) i_this f_this_now_day f_this_now_second f_this_now_months f_this_now_days f_this_now_seconds r2 hc3 _) (kgV (kq q_898 rfl) (kq q_900 rfl) (kq q_16 rfl) (kq q_57 rfl) (kq q_901 rfl)) yd_X9_usedSlots ⟨Nat.le_of_ble_eq_true rfl, Nat.le_of_ble_eq_true rfl⟩ hN hK hP hD [0, 1, 2, 3, 4, 5, 6] rfl rfl (ci := 8) rfl rfl rfl rfl rfl hl.1 rfl (lv_room (Nat.le_of_ble_eq_true rfl)) dX9_count_34) hP hD hS hA [0, 1, 2, 3, 4, 5, 6] rfl rfl (fun H locs hP hD hS => ?_)
    have hP : va_P (dC, dI) vwCl [cl_X9 h_this h_this_now h_this_kept h_this_told h_this_text h_this_script h_this_momentReader h_this_spanReader h_this_adder h_this_other h_this_trial h_this_ways i_this, cl_X4 h_this_now h_this_now_day h_this_now_second h_this_now_months h_this_now_days h_this_now_seconds, (h_this_now_day, .inl (cI, 8, .inl f_this_now_day)), (h_this_now_second, .inl (cI, 8, .inl f_this_now_second)), (h_this_now_months, .inl (cI, 8, .inl f_this_now_months)), (h_this_now_days, .inl (cI, 8, .inl f_this_now_days)), (h_this_now_seconds, .inl (cI, 8, .inl f_this_now_seconds)), cl_X3 h_this_told h_this_told_numbers i_this_told, cl_X6 h_this_text h_this_text_signs i_this_text] H := hP
    have hD : va_D A [cl_X9 h_this h_this_now h_this_kept h_this_told h_this_text h_this_script h_this_momentReader h_this_spanReader h_this_adder h_this_other h_this_trial h_this_ways i_this, cl_X4 h_this_now h_this_now_day h_this_now_second h_this_now_months h_this_now_days h_this_now_seconds, (h_this_now_day, .inl (cI, 8, .inl f_this_now_day)), (h_this_now_second, .inl (cI, 8, .inl f_this_now_second)), (h_this_now_months, .inl (cI, 8, .inl f_this_now_months)), (h_this_now_days, .inl (cI, 8, .inl f_this_now_days)), (h_this_now_seconds, .inl (cI, 8, .inl f_this_now_seconds)), cl_X3 h_this_told h_this_told_numbers i_this_told, cl_X6 h_this_text h_this_text_signs i_this_text] := hD
    obtain rfl := pj1 h
    exact hEnd _ _ _ _ hP hS dX9_count_37 rfl
  have h := ite_f c1 h
  by_cases c4 : p1 = (1 : Int32)
  · have h := ite_t c4 h
    refine lv_tableIn (x := p1) (tgt := 38) hx hb dX9_count_1 (by rw [c4]; decide) (by rw [c4]; decide) (by rw [c4]; rfl) (by decide) ?_
    refine lv_aload_n hx hb dX9_count_38 rfl (lv_at hl 0 rfl) ?_
    refine lv_iconst (v := (1 : Int32)) hx hb dX9_count_39 (by decide) ?_
    obtain ⟨r5, hc6, h⟩ := bd1_at h
    refine kjI (kV (own := "DateSpans") (C := "DateSpans") (b := h_this) (As := [.int (1 : Int32)]) (rest := []) ⟨hx, hb, hml, hown, hts⟩ (kX9_usedSlots l dC dI cI cJ cB h_this h_this_now h_this_kept h_this_told h_this_text h_this_script h_this_momentReader h_this_spanReader h_this_adder h_this_other h_this_trial h_this_ways h_this_now_day h_this_now_second h_this_now_months h_this_now_days h_this_now_seconds N (1 : Int32) i_this f_this_now_day f_this_now_second f_this_now_months f_this_now_days f_this_now_seconds r5 hc6 _) (kgV (kq q_898 rfl) (kq q_900 rfl) (kq q_16 rfl) (kq q_57 rfl) (kq q_901 rfl)) yd_X9_usedSlots ⟨Nat.le_of_ble_eq_true rfl, Nat.le_of_ble_eq_true rfl⟩ hN hK hP hD [0, 1, 2, 3, 4, 5, 6] rfl rfl (ci := 8) rfl rfl rfl rfl rfl hl.1 rfl (lv_room (Nat.le_of_ble_eq_true rfl)) dX9_count_40) hP hD hS hA [0, 1, 2, 3, 4, 5, 6] rfl rfl (fun H locs hP hD hS => ?_)
    have hP : va_P (dC, dI) vwCl [cl_X9 h_this h_this_now h_this_kept h_this_told h_this_text h_this_script h_this_momentReader h_this_spanReader h_this_adder h_this_other h_this_trial h_this_ways i_this, cl_X4 h_this_now h_this_now_day h_this_now_second h_this_now_months h_this_now_days h_this_now_seconds, (h_this_now_day, .inl (cI, 8, .inl f_this_now_day)), (h_this_now_second, .inl (cI, 8, .inl f_this_now_second)), (h_this_now_months, .inl (cI, 8, .inl f_this_now_months)), (h_this_now_days, .inl (cI, 8, .inl f_this_now_days)), (h_this_now_seconds, .inl (cI, 8, .inl f_this_now_seconds)), cl_X3 h_this_told h_this_told_numbers i_this_told, cl_X6 h_this_text h_this_text_signs i_this_text] H := hP
    have hD : va_D A [cl_X9 h_this h_this_now h_this_kept h_this_told h_this_text h_this_script h_this_momentReader h_this_spanReader h_this_adder h_this_other h_this_trial h_this_ways i_this, cl_X4 h_this_now h_this_now_day h_this_now_second h_this_now_months h_this_now_days h_this_now_seconds, (h_this_now_day, .inl (cI, 8, .inl f_this_now_day)), (h_this_now_second, .inl (cI, 8, .inl f_this_now_second)), (h_this_now_months, .inl (cI, 8, .inl f_this_now_months)), (h_this_now_days, .inl (cI, 8, .inl f_this_now_days)), (h_this_now_seconds, .inl (cI, 8, .inl f_this_now_seconds)), cl_X3 h_this_told h_this_told_numbers i_this_told, cl_X6 h_this_text h_this_text_signs i_this_text] := hD
    obtain rfl := pj1 h
    exact hEnd _ _ _ _ hP hS dX9_count_43 rfl
  have h := ite_f c4 h
  by_cases c7 : p1 = (2 : Int32)
  · have h := ite_t c7 h
    refine lv_tableIn (x := p1) (tgt := 44) hx hb dX9_count_1 (by rw [c7]; decide) (by rw [c7]; decide) (by rw [c7]; rfl) (by decide) ?_
    refine lv_aload_n hx hb dX9_count_44 rfl (lv_at hl 0 rfl) ?_
    refine va_get (D := (dC, dI)) (ci := 8) (v := .ref h_this_told) (C := RX9) (T := TX9) (N := 12) hx hb hts inX9 hown hK hP 0 rfl rfl 3 (by decide) (hts _ (kq q_295 rfl)) (fun _ h9 => h9) rfl dX9_count_45 ?_
    obtain ⟨r8, hc9, h⟩ := bd1_at h
    refine kjI (kV (own := "DateSpans") (C := "DateSpans$Row") (b := h_this_told) (As := []) (rest := []) ⟨hx, hb, hml, hown, hts⟩ (kX3_length l dC dI cI cJ cB h_this_told h_this_told_numbers N i_this_told r8 hc9 _) (kgV (kq q_902 rfl) (kq q_903 rfl) (kq q_904 rfl) (kq q_59 rfl) (kq q_905 rfl)) yd_X3_length ⟨Nat.le_of_ble_eq_true rfl, Nat.le_of_ble_eq_true rfl⟩ hN hK hP hD [7] rfl rfl (ci := 2) rfl rfl rfl rfl rfl hl.1 rfl (lv_room (Nat.le_of_ble_eq_true rfl)) dX9_count_48) hP hD hS hA [7] rfl rfl (fun H locs hP hD hS => ?_)
    have hP : va_P (dC, dI) vwCl [cl_X9 h_this h_this_now h_this_kept h_this_told h_this_text h_this_script h_this_momentReader h_this_spanReader h_this_adder h_this_other h_this_trial h_this_ways i_this, cl_X4 h_this_now h_this_now_day h_this_now_second h_this_now_months h_this_now_days h_this_now_seconds, (h_this_now_day, .inl (cI, 8, .inl f_this_now_day)), (h_this_now_second, .inl (cI, 8, .inl f_this_now_second)), (h_this_now_months, .inl (cI, 8, .inl f_this_now_months)), (h_this_now_days, .inl (cI, 8, .inl f_this_now_days)), (h_this_now_seconds, .inl (cI, 8, .inl f_this_now_seconds)), cl_X3 h_this_told h_this_told_numbers i_this_told, cl_X6 h_this_text h_this_text_signs i_this_text] H := hP
    have hD : va_D A [cl_X9 h_this h_this_now h_this_kept h_this_told h_this_text h_this_script h_this_momentReader h_this_spanReader h_this_adder h_this_other h_this_trial h_this_ways i_this, cl_X4 h_this_now h_this_now_day h_this_now_second h_this_now_months h_this_now_days h_this_now_seconds, (h_this_now_day, .inl (cI, 8, .inl f_this_now_day)), (h_this_now_second, .inl (cI, 8, .inl f_this_now_second)), (h_this_now_months, .inl (cI, 8, .inl f_this_now_months)), (h_this_now_days, .inl (cI, 8, .inl f_this_now_days)), (h_this_now_seconds, .inl (cI, 8, .inl f_this_now_seconds)), cl_X3 h_this_told h_this_told_numbers i_this_told, cl_X6 h_this_text h_this_text_signs i_this_text] := hD
    obtain rfl := pj1 h
    exact hEnd _ _ _ _ hP hS dX9_count_51 rfl
  have h := ite_f c7 h
  by_cases c10 : p1 = (3 : Int32)
  · have h := ite_t c10 h
    refine lv_tableIn (x := p1) (tgt := 52) hx hb dX9_count_1 (by rw [c10]; decide) (by rw [c10]; decide) (by rw [c10]; rfl) (by decide) ?_
    refine lv_aload_n hx hb dX9_count_52 rfl (lv_at hl 0 rfl) ?_
    refine va_get (D := (dC, dI)) (ci := 8) (v := .ref h_this_text) (C := RX9) (T := TX9) (N := 12) hx hb hts inX9 hown hK hP 0 rfl rfl 4 (by decide) (hts _ (kq q_296 rfl)) (fun _ h9 => h9) rfl dX9_count_53 ?_
    obtain ⟨r11, hc12, h⟩ := bd1_at h
    refine kjI (kV (own := "DateSpans") (C := "DateSpans$Text") (b := h_this_text) (As := []) (rest := []) ⟨hx, hb, hml, hown, hts⟩ (kX6_length l dC dI cI cJ cB h_this_text h_this_text_signs N i_this_text r11 hc12 _) (kgV (kq q_333 rfl) (kq q_334 rfl) (kq q_335 rfl) (kq q_60 rfl) (kq q_336 rfl)) yd_X6_length ⟨Nat.le_of_ble_eq_true rfl, Nat.le_of_ble_eq_true rfl⟩ hN hK hP hD [8] rfl rfl (ci := 5) rfl rfl rfl rfl rfl hl.1 rfl (lv_room (Nat.le_of_ble_eq_true rfl)) dX9_count_56) hP hD hS hA [8] rfl rfl (fun H locs hP hD hS => ?_)
    have hP : va_P (dC, dI) vwCl [cl_X9 h_this h_this_now h_this_kept h_this_told h_this_text h_this_script h_this_momentReader h_this_spanReader h_this_adder h_this_other h_this_trial h_this_ways i_this, cl_X4 h_this_now h_this_now_day h_this_now_second h_this_now_months h_this_now_days h_this_now_seconds, (h_this_now_day, .inl (cI, 8, .inl f_this_now_day)), (h_this_now_second, .inl (cI, 8, .inl f_this_now_second)), (h_this_now_months, .inl (cI, 8, .inl f_this_now_months)), (h_this_now_days, .inl (cI, 8, .inl f_this_now_days)), (h_this_now_seconds, .inl (cI, 8, .inl f_this_now_seconds)), cl_X3 h_this_told h_this_told_numbers i_this_told, cl_X6 h_this_text h_this_text_signs i_this_text] H := hP
    have hD : va_D A [cl_X9 h_this h_this_now h_this_kept h_this_told h_this_text h_this_script h_this_momentReader h_this_spanReader h_this_adder h_this_other h_this_trial h_this_ways i_this, cl_X4 h_this_now h_this_now_day h_this_now_second h_this_now_months h_this_now_days h_this_now_seconds, (h_this_now_day, .inl (cI, 8, .inl f_this_now_day)), (h_this_now_second, .inl (cI, 8, .inl f_this_now_second)), (h_this_now_months, .inl (cI, 8, .inl f_this_now_months)), (h_this_now_days, .inl (cI, 8, .inl f_this_now_days)), (h_this_now_seconds, .inl (cI, 8, .inl f_this_now_seconds)), cl_X3 h_this_told h_this_told_numbers i_this_told, cl_X6 h_this_text h_this_text_signs i_this_text] := hD
    obtain rfl := pj1 h
    exact hEnd _ _ _ _ hP hS dX9_count_59 rfl
  have h := ite_f c10 h
  have gc1 := kne (k := 0) (by decide) c1
  have gc4 := kne (k := 1) (by decide) c4
  have gc7 := kne (k := 2) (by decide) c7
  have gc10 := kne (k := 3) (by decide) c10
  refine lv_tableOut (x := p1) (tgt := 60) hx hb dX9_count_1 (by omega) (by decide) ?_
  refine lv_iconst (v := (-1 : Int32)) hx hb dX9_count_60 (by decide) ?_
  obtain rfl := pj1 h
  exact hEnd _ _ _ _ hP hS dX9_count_61 rfl
noncomputable def fX10_sign_l20 (N : Nat) (j_this : Nat → Int64) (n : Nat) : Int32 → Int32 → (Nat → Int32) → (Nat → Int32) → Option (Int32 × (Nat → Int32) × (Nat → Int32)) := Nat.rec (motive := fun _ => Int32 → Int32 → (Nat → Int32) → (Nat → Int32) → Option (Int32 × (Nat → Int32) × (Nat → Int32))) (fun _ _ _ _ => none) (fun _ K_20 v1 v2 i_this f_this_text => (if v2 < (0 : Int32) then (some ((i_this 6), i_this, f_this_text)) else (gi (i_this 6) 100 (nm (v2 + (-1 : Int32)) fun z3 => (K_20 v1 z3 (upd i_this 6 ((i_this 6) + (1 : Int32))) (upd f_this_text (i_this 6).toNatClampNeg (vp_nar .byte ((v1 >>> (((8 : Int32) * v2) &&& 31)).toInt8.toInt32)))))))) n
theorem fX10_sign_l20_s (N : Nat) (j_this : Nat → Int64) (n : Nat) (v1 : Int32) (v2 : Int32) (i_this : Nat → Int32) (f_this_text : Nat → Int32) : fX10_sign_l20 N j_this (n + 1) v1 v2 i_this f_this_text = (if v2 < (0 : Int32) then (some ((i_this 6), i_this, f_this_text)) else (gi (i_this 6) 100 (nm (v2 + (-1 : Int32)) fun z3 => ((fX10_sign_l20 N j_this n) v1 z3 (upd i_this 6 ((i_this 6) + (1 : Int32))) (upd f_this_text (i_this 6).toNatClampNeg (vp_nar .byte ((v1 >>> (((8 : Int32) * v2) &&& 31)).toInt8.toInt32))))))) := rfl
theorem fX10_sign_l20_0 (N : Nat) (j_this : Nat → Int64) (v1 : Int32) (v2 : Int32) (i_this : Nat → Int32) (f_this_text : Nat → Int32) : fX10_sign_l20 N j_this 0 v1 v2 i_this f_this_text = none := rfl
noncomputable def fX10_sign (N : Nat) (p1 : Int32) (i_this : Nat → Int32) (j_this : Nat → Int64) (f_this_text : Nat → Int32) : Option (Int32 × (Nat → Int32) × (Nat → Int32)) := (if ((i_this 6) + (4 : Int32)) ≤ (100 : Int32) then (fX10_sign_l20 N j_this N p1 (3 : Int32) (upd i_this 9 (0 : Int32)) f_this_text) else (some ((-1 : Int32), (upd i_this 9 (0 : Int32)), f_this_text)))
set_option maxHeartbeats 4000000 in
set_option maxRecDepth 100000 in
theorem kX10_sign (l : Launch) (dC : Nat → ClassId) (dI : Nat → Nat → Nat) (cI cJ cB : ClassId) (h_this h_this_dayAt h_this_secondAt h_this_spans h_this_kept h_this_text h_this_row h_this_read h_this_many h_this_first h_this_lengths h_this_page : Nat) (N : Nat) (p1 : Int32) (i_this : Nat → Int32) (j_this : Nat → Int64) (f_this_text : Nat → Int32) (r : Int32) (o_i_this : Nat → Int32) (o_f_this_text : Nat → Int32) (hf : fX10_sign N p1 i_this j_this f_this_text = some (r, o_i_this, o_f_this_text)) : MI l yX10_sign (kws yX10_sign cX10_sign 3 (some .int)) (kR 0 0) (dC, dI) (kT cI cJ cB) [.ref h_this, .int p1] [cl_X10 h_this h_this_dayAt h_this_secondAt h_this_spans h_this_kept h_this_text h_this_row h_this_read h_this_many h_this_first h_this_lengths h_this_page i_this j_this, (h_this_text, .inl (cB, 100, .inl f_this_text))] [cl_X10 h_this h_this_dayAt h_this_secondAt h_this_spans h_this_kept h_this_text h_this_row h_this_read h_this_many h_this_first h_this_lengths h_this_page o_i_this j_this, (h_this_text, .inl (cB, 100, .inl o_f_this_text))] r := by
  refine MI.of (cc := cX10_sign) (maxL := 3) (by decide) (Nat.le_of_ble_eq_true rfl) (fun p e s m args below meth c A Q ls KC hN hK hP hD hA hl hEnd => ?_)
  obtain ⟨hx, hb, hml, hown, hts⟩ := KC
  have hown : s.vm.findClass "DateSpansModel" = some m.cls := hown
  have hl : lv_has ls 3 [(0, .ref h_this), (1, .int p1)] := hl
  have hS : va_S A s.heap s.heap [] := va_S.rf
  have LP_20 : ∀ n_20 : Nat, ∀ (v1 : Int32) (v2 : Int32) (i_this : Nat → Int32) (f_this_text : Nat → Int32) (ls : Array Slot) (H : Heap) (locs : List Loc), fX10_sign_l20 N j_this n_20 v1 v2 i_this f_this_text = some (r, o_i_this, o_f_this_text) → lv_has ls 3 [(0, .ref h_this), (1, .int v1), (2, .int v2)] → va_P (dC, dI) vwCl [cl_X10 h_this h_this_dayAt h_this_secondAt h_this_spans h_this_kept h_this_text h_this_row h_this_read h_this_many h_this_first h_this_lengths h_this_page i_this j_this, (h_this_text, .inl (cB, 100, .inl f_this_text))] H → va_D A [cl_X10 h_this h_this_dayAt h_this_secondAt h_this_spans h_this_kept h_this_text h_this_row h_this_read h_this_many h_this_first h_this_lengths h_this_page i_this j_this, (h_this_text, .inl (cB, 100, .inl f_this_text))] → va_S A s.heap H locs → W p l e (kR 0 0) s m args below meth c H locs 0 0 Q (F0 m 20 ls []) := by
    intro n_20
    induction n_20 with
    | zero =>
      intro v1 v2 i_this f_this_text ls H locs h hl hP hD hS
      rw [fX10_sign_l20_0] at h; cases h
    | succ n_20 ih_20 =>
      intro v1 v2 i_this f_this_text ls H locs h hl hP hD hS
      rw [fX10_sign_l20_s] at h
      refine lv_iload_n hx hb dX10_sign_20 rfl (lv_at hl 2 rfl) ?_
      refine lv_if_lt (tgt := 53) hx hb dX10_sign_21 (by decide) (fun c1 => ?_) (fun c1 => ?_)
      · have h := ite_t c1 h
        refine lv_aload_n hx hb dX10_sign_53 rfl (lv_at hl 0 rfl) ?_
        refine va_get (D := (dC, dI)) (ci := 9) (v := .int (i_this 6)) (C := RX10) (T := TX10) (N := 29) hx hb hts inX10 hown hK hP 0 rfl rfl 6 (by decide) (hts _ (kq q_992 rfl)) (fun _ h9 => h9) rfl dX10_sign_54 ?_
        obtain ⟨rfl, rfl, rfl⟩ := pj3 h
        exact hEnd _ _ _ _ hP hS dX10_sign_57 rfl
      have h := ite_f c1 h
      refine lv_aload_n hx hb dX10_sign_24 rfl (lv_at hl 0 rfl) ?_
      refine va_get (D := (dC, dI)) (ci := 9) (v := .ref h_this_text) (C := RX10) (T := TX10) (N := 29) hx hb hts inX10 hown hK hP 0 rfl rfl 5 (by decide) (hts _ (kq q_991 rfl)) (fun _ h9 => h9) rfl dX10_sign_25 ?_
      refine lv_aload_n hx hb dX10_sign_28 rfl (lv_at hl 0 rfl) ?_
      refine lv_dup hx hb dX10_sign_29 rfl ?_
      refine va_get (D := (dC, dI)) (ci := 9) (v := .int (i_this 6)) (C := RX10) (T := TX10) (N := 29) hx hb hts inX10 hown hK hP 0 rfl rfl 6 (by decide) (hts _ (kq q_992 rfl)) (fun _ h9 => h9) rfl dX10_sign_30 ?_
      refine lv_dup_x1 hx hb dX10_sign_33 rfl rfl ?_
      refine lv_iconst (v := (1 : Int32)) hx hb dX10_sign_34 (by decide) ?_
      refine lv_iadd hx hb dX10_sign_35 ?_
      refine va_put (D := (dC, dI)) (ci := 9) (v := .int ((i_this 6) + (1 : Int32))) (ty := .int) (C := RX10) (T := TX10) (N := 29) hx hb hts inX10 tyX10 tyX10_ok nmX10 hown hK hP hD hS 0 rfl rfl 6 (by decide) (hts _ (kq q_992 rfl)) (fun _ h9 => h9) rfl (by decide +kernel) rfl rfl (Nat.le_of_ble_eq_true rfl) dX10_sign_36 (fun H locs hP hD hS => ?_)
      have hP : va_P (dC, dI) vwCl [(h_this, .inr (9, [.ref h_this_dayAt, .ref h_this_secondAt, .ref h_this_spans, .ref h_this_kept, .int (i_this 4), .ref h_this_text, .int ((i_this 6) + (1 : Int32)), .ref h_this_row, .int (i_this 8), .int (i_this 9), .int (i_this 10), .int (i_this 11), .int (i_this 12), .int (i_this 13), .int (i_this 14), .int (i_this 15), .int (i_this 16), .int (i_this 17), .int (i_this 18), .ref h_this_read, .long (j_this 20), .ref h_this_many, .ref h_this_first, .ref h_this_lengths, .int (i_this 24), .long (j_this 25), .long (j_this 26), .ref h_this_page, .int (i_this 28)])), (h_this_text, .inl (cB, 100, .inl f_this_text))] H := hP
      have hD : va_D A [(h_this, .inr (9, [.ref h_this_dayAt, .ref h_this_secondAt, .ref h_this_spans, .ref h_this_kept, .int (i_this 4), .ref h_this_text, .int ((i_this 6) + (1 : Int32)), .ref h_this_row, .int (i_this 8), .int (i_this 9), .int (i_this 10), .int (i_this 11), .int (i_this 12), .int (i_this 13), .int (i_this 14), .int (i_this 15), .int (i_this 16), .int (i_this 17), .int (i_this 18), .ref h_this_read, .long (j_this 20), .ref h_this_many, .ref h_this_first, .ref h_this_lengths, .int (i_this 24), .long (j_this 25), .long (j_this 26), .ref h_this_page, .int (i_this 28)])), (h_this_text, .inl (cB, 100, .inl f_this_text))] := hD
      refine lv_iload_n hx hb dX10_sign_39 rfl (lv_at hl 1 rfl) ?_
      refine lv_bipush (v := (8 : Int32)) hx hb dX10_sign_40 (by decide) ?_
      refine lv_iload_n hx hb dX10_sign_42 rfl (lv_at hl 2 rfl) ?_
      refine lv_imul hx hb dX10_sign_43 ?_
      refine lv_ishr hx hb dX10_sign_44 ?_
      refine lv_i2b hx hb dX10_sign_45 rfl ?_
      obtain ⟨hi2, h⟩ := gi_at h
      refine va_bast hx hb hK hP hD hS 1 2 rfl rfl hi2 dX10_sign_46 (fun H locs hP hD hS => ?_)
      have hP : va_P (dC, dI) vwCl [(h_this, .inr (9, [.ref h_this_dayAt, .ref h_this_secondAt, .ref h_this_spans, .ref h_this_kept, .int (i_this 4), .ref h_this_text, .int ((i_this 6) + (1 : Int32)), .ref h_this_row, .int (i_this 8), .int (i_this 9), .int (i_this 10), .int (i_this 11), .int (i_this 12), .int (i_this 13), .int (i_this 14), .int (i_this 15), .int (i_this 16), .int (i_this 17), .int (i_this 18), .ref h_this_read, .long (j_this 20), .ref h_this_many, .ref h_this_first, .ref h_this_lengths, .int (i_this 24), .long (j_this 25), .long (j_this 26), .ref h_this_page, .int (i_this 28)])), (h_this_text, .inl (cB, 100, .inl (upd f_this_text (i_this 6).toNatClampNeg (vp_nar .byte ((v1 >>> (((8 : Int32) * v2) &&& 31)).toInt8.toInt32)))))] H := hP
      have hD : va_D A [(h_this, .inr (9, [.ref h_this_dayAt, .ref h_this_secondAt, .ref h_this_spans, .ref h_this_kept, .int (i_this 4), .ref h_this_text, .int ((i_this 6) + (1 : Int32)), .ref h_this_row, .int (i_this 8), .int (i_this 9), .int (i_this 10), .int (i_this 11), .int (i_this 12), .int (i_this 13), .int (i_this 14), .int (i_this 15), .int (i_this 16), .int (i_this 17), .int (i_this 18), .ref h_this_read, .long (j_this 20), .ref h_this_many, .ref h_this_first, .ref h_this_lengths, .int (i_this 24), .long (j_this 25), .long (j_this 26), .ref h_this_page, .int (i_this 28)])), (h_this_text, .inl (cB, 100, .inl (upd f_this_text (i_this 6).toNatClampNeg (vp_nar .byte ((v1 >>> (((8 : Int32) * v2) &&& 31)).toInt8.toInt32)))))] := hD
      obtain ⟨z3, ez3⟩ : ∃ y : Int32, y = (v2 + (-1 : Int32)) := ⟨_, rfl⟩
      have h := nm_at ez3 h
      refine lv_iinc (v := z3) (lv' := [(2, .int z3), (0, .ref h_this), (1, .int v1)]) hx hb dX10_sign_47 hl (k := 2) rfl (by rw [ez3]; rfl) (by decide) rfl (fun ls hl => ?_)
      refine lv_goto (tgt := 20) hx hb dX10_sign_50 (by decide) ?_
      have hP : va_P (dC, dI) vwCl [cl_X10 h_this h_this_dayAt h_this_secondAt h_this_spans h_this_kept h_this_text h_this_row h_this_read h_this_many h_this_first h_this_lengths h_this_page (upd i_this 6 ((i_this 6) + (1 : Int32))) j_this, (h_this_text, .inl (cB, 100, .inl (upd f_this_text (i_this 6).toNatClampNeg (vp_nar .byte ((v1 >>> (((8 : Int32) * v2) &&& 31)).toInt8.toInt32)))))] H := hP
      have hD : va_D A [cl_X10 h_this h_this_dayAt h_this_secondAt h_this_spans h_this_kept h_this_text h_this_row h_this_read h_this_many h_this_first h_this_lengths h_this_page (upd i_this 6 ((i_this 6) + (1 : Int32))) j_this, (h_this_text, .inl (cB, 100, .inl (upd f_this_text (i_this 6).toNatClampNeg (vp_nar .byte ((v1 >>> (((8 : Int32) * v2) &&& 31)).toInt8.toInt32)))))] := hD
      exact ih_20 _ _ _ _ _ _ _ h (lv_sub hl [1, 2, 0] rfl) hP hD hS
  have h := hf
  unfold fX10_sign at h
  refine lv_aload_n hx hb dX10_sign_0 rfl (lv_at hl 0 rfl) ?_
  refine lv_iconst (v := (0 : Int32)) hx hb dX10_sign_1 (by decide) ?_
  refine va_put (D := (dC, dI)) (ci := 9) (v := .int (0 : Int32)) (ty := .int) (C := RX10) (T := TX10) (N := 29) hx hb hts inX10 tyX10 tyX10_ok nmX10 hown hK hP hD hS 0 rfl rfl 9 (by decide) (hts _ (kq q_995 rfl)) (fun _ h9 => h9) rfl (by decide +kernel) rfl rfl (Nat.le_of_ble_eq_true rfl) dX10_sign_2 (fun H locs hP hD hS => ?_)
  have hP : va_P (dC, dI) vwCl [(h_this, .inr (9, [.ref h_this_dayAt, .ref h_this_secondAt, .ref h_this_spans, .ref h_this_kept, .int (i_this 4), .ref h_this_text, .int (i_this 6), .ref h_this_row, .int (i_this 8), .int (0 : Int32), .int (i_this 10), .int (i_this 11), .int (i_this 12), .int (i_this 13), .int (i_this 14), .int (i_this 15), .int (i_this 16), .int (i_this 17), .int (i_this 18), .ref h_this_read, .long (j_this 20), .ref h_this_many, .ref h_this_first, .ref h_this_lengths, .int (i_this 24), .long (j_this 25), .long (j_this 26), .ref h_this_page, .int (i_this 28)])), (h_this_text, .inl (cB, 100, .inl f_this_text))] H := hP
  have hD : va_D A [(h_this, .inr (9, [.ref h_this_dayAt, .ref h_this_secondAt, .ref h_this_spans, .ref h_this_kept, .int (i_this 4), .ref h_this_text, .int (i_this 6), .ref h_this_row, .int (i_this 8), .int (0 : Int32), .int (i_this 10), .int (i_this 11), .int (i_this 12), .int (i_this 13), .int (i_this 14), .int (i_this 15), .int (i_this 16), .int (i_this 17), .int (i_this 18), .ref h_this_read, .long (j_this 20), .ref h_this_many, .ref h_this_first, .ref h_this_lengths, .int (i_this 24), .long (j_this 25), .long (j_this 26), .ref h_this_page, .int (i_this 28)])), (h_this_text, .inl (cB, 100, .inl f_this_text))] := hD
  refine lv_aload_n hx hb dX10_sign_5 rfl (lv_at hl 0 rfl) ?_
  refine va_get (D := (dC, dI)) (ci := 9) (v := .int (i_this 6)) (C := RX10) (T := TX10) (N := 29) hx hb hts inX10 hown hK hP 0 rfl rfl 6 (by decide) (hts _ (kq q_992 rfl)) (fun _ h9 => h9) rfl dX10_sign_6 ?_
  refine lv_iconst (v := (4 : Int32)) hx hb dX10_sign_9 (by decide) ?_
  refine lv_iadd hx hb dX10_sign_10 ?_
  refine lv_bipush (v := (100 : Int32)) hx hb dX10_sign_11 (by decide) ?_
  refine lv_icmp_le (tgt := 18) hx hb dX10_sign_13 (by decide) (fun c4 => ?_) (fun c4 => ?_)
  · have h := ite_t c4 h
    refine lv_iconst (v := (3 : Int32)) hx hb dX10_sign_18 (by decide) ?_
    refine lv_istore_n (lv' := [(2, .int (3 : Int32)), (0, .ref h_this), (1, .int p1)]) hx hb dX10_sign_19 rfl hl (by decide) rfl (fun ls hl => ?_)
    have hP : va_P (dC, dI) vwCl [cl_X10 h_this h_this_dayAt h_this_secondAt h_this_spans h_this_kept h_this_text h_this_row h_this_read h_this_many h_this_first h_this_lengths h_this_page (upd i_this 9 (0 : Int32)) j_this, (h_this_text, .inl (cB, 100, .inl f_this_text))] H := hP
    have hD : va_D A [cl_X10 h_this h_this_dayAt h_this_secondAt h_this_spans h_this_kept h_this_text h_this_row h_this_read h_this_many h_this_first h_this_lengths h_this_page (upd i_this 9 (0 : Int32)) j_this, (h_this_text, .inl (cB, 100, .inl f_this_text))] := hD
    exact LP_20 N _ _ _ _ _ _ _ h (lv_sub hl [1, 2, 0] rfl) hP hD hS
  have h := ite_f c4 h
  refine lv_iconst (v := (-1 : Int32)) hx hb dX10_sign_16 (by decide) ?_
  have hP : va_P (dC, dI) vwCl [cl_X10 h_this h_this_dayAt h_this_secondAt h_this_spans h_this_kept h_this_text h_this_row h_this_read h_this_many h_this_first h_this_lengths h_this_page (upd i_this 9 (0 : Int32)) j_this, (h_this_text, .inl (cB, 100, .inl f_this_text))] H := hP
  have hD : va_D A [cl_X10 h_this h_this_dayAt h_this_secondAt h_this_spans h_this_kept h_this_text h_this_row h_this_read h_this_many h_this_first h_this_lengths h_this_page (upd i_this 9 (0 : Int32)) j_this, (h_this_text, .inl (cB, 100, .inl f_this_text))] := hD
  obtain ⟨rfl, rfl, rfl⟩ := pj3 h
  exact hEnd _ _ _ _ hP hS dX10_sign_17 rfl
noncomputable def fX10_in (N : Nat) (p1 : Int64) (p2 : Int64) (p3 : Int64) : Option (Int32) := (if (lg_cmp p1 p2) < (0 : Int32) then (some (0 : Int32)) else (if (0 : Int32) < (lg_cmp p1 p3) then (some (0 : Int32)) else (some (1 : Int32))))
set_option maxHeartbeats 4000000 in
set_option maxRecDepth 100000 in
theorem kX10_in (l : Launch) (N : Nat) (p1 : Int64) (p2 : Int64) (p3 : Int64) (r : Int32) (hf : fX10_in N p1 p2 p3 = some r) : SI l yX10_in (kws yX10_in cX10_in 6 (some .boolean)) (kR 0 0) [.long p1, .long p2, .long p3] r := by
  refine SI.of (cc := cX10_in) (maxL := 6) (by decide) (Nat.le_of_ble_eq_true rfl) (fun p e s m args below meth c Q ls KC hl hEnd => ?_)
  obtain ⟨hx, hb, hml, hown, hts⟩ := KC
  have hown : s.vm.findClass "DateSpansModel" = some m.cls := hown
  have hl : lv_has ls 6 [(0, .long p1), (2, .long p2), (4, .long p3)] := hl
  have h := hf
  unfold fX10_in at h
  refine lv_lload_n hx hb dX10_in_0 rfl (lv_at hl 0 rfl) ?_
  refine lv_lload_n hx hb dX10_in_1 rfl (lv_at hl 1 rfl) ?_
  refine W.lcmp hx hb dX10_in_2 ?_
  refine lv_if_lt (tgt := 17) hx hb dX10_in_3 (by decide) (fun c1 => ?_) (fun c1 => ?_)
  · have h := ite_t c1 h
    refine lv_iconst (v := (0 : Int32)) hx hb dX10_in_17 (by decide) ?_
    obtain rfl := pj1 h
    exact hEnd _ _ dX10_in_18 rfl
  have h := ite_f c1 h
  refine lv_lload_n hx hb dX10_in_6 rfl (lv_at hl 0 rfl) ?_
  refine lv_lload hx hb dX10_in_7 (lv_at hl 2 rfl) ?_
  refine W.lcmp hx hb dX10_in_9 ?_
  refine lv_if_gt (tgt := 17) hx hb dX10_in_10 (by decide) (fun c2 => ?_) (fun c2 => ?_)
  · have h := ite_t c2 h
    refine lv_iconst (v := (0 : Int32)) hx hb dX10_in_17 (by decide) ?_
    obtain rfl := pj1 h
    exact hEnd _ _ dX10_in_18 rfl
  have h := ite_f c2 h
  refine lv_iconst (v := (1 : Int32)) hx hb dX10_in_13 (by decide) ?_
  refine lv_goto (tgt := 18) hx hb dX10_in_14 (by decide) ?_
  obtain rfl := pj1 h
  exact hEnd _ _ dX10_in_18 rfl
noncomputable def fX10_end (N : Nat) (p1 : Int32) (i_this : Nat → Int32) (j_this : Nat → Int64) : Option (Int32 × (Nat → Int32)) := (bd1 (fX10_in N p1.toInt64 (0 : Int64) ((i_this 6).toInt64)) fun r1 => (if r1 = (0 : Int32) then (some ((0 : Int32), (upd i_this 9 (0 : Int32)))) else (some ((1 : Int32), (upd (upd i_this 9 (0 : Int32)) 6 p1)))))
set_option maxHeartbeats 4000000 in
set_option maxRecDepth 100000 in
theorem kX10_end (l : Launch) (dC : Nat → ClassId) (dI : Nat → Nat → Nat) (cI cJ cB : ClassId) (h_this h_this_dayAt h_this_secondAt h_this_spans h_this_kept h_this_text h_this_row h_this_read h_this_many h_this_first h_this_lengths h_this_page : Nat) (N : Nat) (p1 : Int32) (i_this : Nat → Int32) (j_this : Nat → Int64) (r : Int32) (o_i_this : Nat → Int32) (hf : fX10_end N p1 i_this j_this = some (r, o_i_this)) : MI l yX10_end (kws yX10_end cX10_end 2 (some .boolean)) (kR 1 25) (dC, dI) (kT cI cJ cB) [.ref h_this, .int p1] [cl_X10 h_this h_this_dayAt h_this_secondAt h_this_spans h_this_kept h_this_text h_this_row h_this_read h_this_many h_this_first h_this_lengths h_this_page i_this j_this] [cl_X10 h_this h_this_dayAt h_this_secondAt h_this_spans h_this_kept h_this_text h_this_row h_this_read h_this_many h_this_first h_this_lengths h_this_page o_i_this j_this] r := by
  refine MI.of (cc := cX10_end) (maxL := 2) (by decide) (Nat.le_of_ble_eq_true rfl) (fun p e s m args below meth c A Q ls KC hN hK hP hD hA hl hEnd => ?_)
  obtain ⟨hx, hb, hml, hown, hts⟩ := KC
  have hown : s.vm.findClass "DateSpansModel" = some m.cls := hown
  have hl : lv_has ls 2 [(0, .ref h_this), (1, .int p1)] := hl
  have hS : va_S A s.heap s.heap [] := va_S.rf
  have h := hf
  unfold fX10_end at h
  refine lv_aload_n hx hb dX10_end_0 rfl (lv_at hl 0 rfl) ?_
  refine lv_iconst (v := (0 : Int32)) hx hb dX10_end_1 (by decide) ?_
  refine va_put (D := (dC, dI)) (ci := 9) (v := .int (0 : Int32)) (ty := .int) (C := RX10) (T := TX10) (N := 29) hx hb hts inX10 tyX10 tyX10_ok nmX10 hown hK hP hD hS 0 rfl rfl 9 (by decide) (hts _ (kq q_995 rfl)) (fun _ h9 => h9) rfl (by decide +kernel) rfl rfl (Nat.le_of_ble_eq_true rfl) dX10_end_2 (fun H locs hP hD hS => ?_)
  have hP : va_P (dC, dI) vwCl [(h_this, .inr (9, [.ref h_this_dayAt, .ref h_this_secondAt, .ref h_this_spans, .ref h_this_kept, .int (i_this 4), .ref h_this_text, .int (i_this 6), .ref h_this_row, .int (i_this 8), .int (0 : Int32), .int (i_this 10), .int (i_this 11), .int (i_this 12), .int (i_this 13), .int (i_this 14), .int (i_this 15), .int (i_this 16), .int (i_this 17), .int (i_this 18), .ref h_this_read, .long (j_this 20), .ref h_this_many, .ref h_this_first, .ref h_this_lengths, .int (i_this 24), .long (j_this 25), .long (j_this 26), .ref h_this_page, .int (i_this 28)]))] H := hP
  have hD : va_D A [(h_this, .inr (9, [.ref h_this_dayAt, .ref h_this_secondAt, .ref h_this_spans, .ref h_this_kept, .int (i_this 4), .ref h_this_text, .int (i_this 6), .ref h_this_row, .int (i_this 8), .int (0 : Int32), .int (i_this 10), .int (i_this 11), .int (i_this 12), .int (i_this 13), .int (i_this 14), .int (i_this 15), .int (i_this 16), .int (i_this 17), .int (i_this 18), .ref h_this_read, .long (j_this 20), .ref h_this_many, .ref h_this_first, .ref h_this_lengths, .int (i_this 24), .long (j_this 25), .long (j_this 26), .ref h_this_page, .int (i_this 28)]))] := hD
  refine lv_iload_n hx hb dX10_end_5 rfl (lv_at hl 1 rfl) ?_
  refine lv_i2l hx hb dX10_end_6 rfl ?_
  refine lv_lconst (v := (0 : Int64)) hx hb dX10_end_7 (by decide) ?_
  refine lv_aload_n hx hb dX10_end_8 rfl (lv_at hl 0 rfl) ?_
  refine va_get (D := (dC, dI)) (ci := 9) (v := .int (i_this 6)) (C := RX10) (T := TX10) (N := 29) hx hb hts inX10 hown hK hP 0 rfl rfl 6 (by decide) (hts _ (kq q_992 rfl)) (fun _ h9 => h9) rfl dX10_end_9 ?_
  refine lv_i2l hx hb dX10_end_12 rfl ?_
  have hP : va_P (dC, dI) vwCl [cl_X10 h_this h_this_dayAt h_this_secondAt h_this_spans h_this_kept h_this_text h_this_row h_this_read h_this_many h_this_first h_this_lengths h_this_page (upd i_this 9 (0 : Int32)) j_this] H := hP
  have hD : va_D A [cl_X10 h_this h_this_dayAt h_this_secondAt h_this_spans h_this_kept h_this_text h_this_row h_this_read h_this_many h_this_first h_this_lengths h_this_page (upd i_this 9 (0 : Int32)) j_this] := hD
  obtain ⟨r1, hc2, h⟩ := bd1_at h
  refine kjSI (kS0 (own := "DateSpansModel") (As := [.long p1.toInt64, .long (0 : Int64), .long ((i_this 6).toInt64)]) (rest := []) ⟨hx, hb, hml, hown, hts⟩ (kX10_in l N p1.toInt64 (0 : Int64) ((i_this 6).toInt64) r1 hc2) (kgS (kq q_1086 rfl) (kq q_1087 rfl) (kq q_66 rfl) (kq q_1088 rfl)) yd_X10_in ⟨Nat.le_of_ble_eq_true rfl, Nat.le_of_ble_eq_true rfl⟩ rfl rfl hl.1 rfl (lv_room (Nat.le_of_ble_eq_true rfl)) dX10_end_13) ?_
  refine lv_if_ne (tgt := 21) hx hb dX10_end_16 (by decide) (fun c3 => ?_) (fun c3 => ?_)
  · have h := ite_f c3 h
    refine lv_aload_n hx hb dX10_end_21 rfl (lv_at hl 0 rfl) ?_
    refine lv_iload_n hx hb dX10_end_22 rfl (lv_at hl 1 rfl) ?_
    refine va_put (D := (dC, dI)) (ci := 9) (v := .int p1) (ty := .int) (C := RX10) (T := TX10) (N := 29) hx hb hts inX10 tyX10 tyX10_ok nmX10 hown hK hP hD hS 0 rfl rfl 6 (by decide) (hts _ (kq q_992 rfl)) (fun _ h9 => h9) rfl (by decide +kernel) rfl rfl (Nat.le_of_ble_eq_true rfl) dX10_end_23 (fun H locs hP hD hS => ?_)
    have hP : va_P (dC, dI) vwCl [(h_this, .inr (9, [.ref h_this_dayAt, .ref h_this_secondAt, .ref h_this_spans, .ref h_this_kept, .int ((upd i_this 9 (0 : Int32)) 4), .ref h_this_text, .int p1, .ref h_this_row, .int ((upd i_this 9 (0 : Int32)) 8), .int ((upd i_this 9 (0 : Int32)) 9), .int ((upd i_this 9 (0 : Int32)) 10), .int ((upd i_this 9 (0 : Int32)) 11), .int ((upd i_this 9 (0 : Int32)) 12), .int ((upd i_this 9 (0 : Int32)) 13), .int ((upd i_this 9 (0 : Int32)) 14), .int ((upd i_this 9 (0 : Int32)) 15), .int ((upd i_this 9 (0 : Int32)) 16), .int ((upd i_this 9 (0 : Int32)) 17), .int ((upd i_this 9 (0 : Int32)) 18), .ref h_this_read, .long (j_this 20), .ref h_this_many, .ref h_this_first, .ref h_this_lengths, .int ((upd i_this 9 (0 : Int32)) 24), .long (j_this 25), .long (j_this 26), .ref h_this_page, .int ((upd i_this 9 (0 : Int32)) 28)]))] H := hP
    have hD : va_D A [(h_this, .inr (9, [.ref h_this_dayAt, .ref h_this_secondAt, .ref h_this_spans, .ref h_this_kept, .int ((upd i_this 9 (0 : Int32)) 4), .ref h_this_text, .int p1, .ref h_this_row, .int ((upd i_this 9 (0 : Int32)) 8), .int ((upd i_this 9 (0 : Int32)) 9), .int ((upd i_this 9 (0 : Int32)) 10), .int ((upd i_this 9 (0 : Int32)) 11), .int ((upd i_this 9 (0 : Int32)) 12), .int ((upd i_this 9 (0 : Int32)) 13), .int ((upd i_this 9 (0 : Int32)) 14), .int ((upd i_this 9 (0 : Int32)) 15), .int ((upd i_this 9 (0 : Int32)) 16), .int ((upd i_this 9 (0 : Int32)) 17), .int ((upd i_this 9 (0 : Int32)) 18), .ref h_this_read, .long (j_this 20), .ref h_this_many, .ref h_this_first, .ref h_this_lengths, .int ((upd i_this 9 (0 : Int32)) 24), .long (j_this 25), .long (j_this 26), .ref h_this_page, .int ((upd i_this 9 (0 : Int32)) 28)]))] := hD
    refine lv_iconst (v := (1 : Int32)) hx hb dX10_end_26 (by decide) ?_
    have hP : va_P (dC, dI) vwCl [cl_X10 h_this h_this_dayAt h_this_secondAt h_this_spans h_this_kept h_this_text h_this_row h_this_read h_this_many h_this_first h_this_lengths h_this_page (upd (upd i_this 9 (0 : Int32)) 6 p1) j_this] H := hP
    have hD : va_D A [cl_X10 h_this h_this_dayAt h_this_secondAt h_this_spans h_this_kept h_this_text h_this_row h_this_read h_this_many h_this_first h_this_lengths h_this_page (upd (upd i_this 9 (0 : Int32)) 6 p1) j_this] := hD
    obtain ⟨rfl, rfl⟩ := pj2 h
    exact hEnd _ _ _ _ hP hS dX10_end_27 rfl
  have h := ite_t c3 h
  refine lv_iconst (v := (0 : Int32)) hx hb dX10_end_19 (by decide) ?_
  obtain ⟨rfl, rfl⟩ := pj2 h
  exact hEnd _ _ _ _ hP hS dX10_end_20 rfl
noncomputable def fX10_begin (N : Nat) (i_this : Nat → Int32) (j_this : Nat → Int64) : Option ((Nat → Int32)) := (some (upd (upd (upd (upd i_this 6 (0 : Int32)) 16 (i_this 6)) 17 (0 : Int32)) 18 (-1 : Int32)))
set_option maxHeartbeats 4000000 in
set_option maxRecDepth 100000 in
theorem kX10_begin (l : Launch) (dC : Nat → ClassId) (dI : Nat → Nat → Nat) (cI cJ cB : ClassId) (h_this h_this_dayAt h_this_secondAt h_this_spans h_this_kept h_this_text h_this_row h_this_read h_this_many h_this_first h_this_lengths h_this_page : Nat) (N : Nat) (i_this : Nat → Int32) (j_this : Nat → Int64) (o_i_this : Nat → Int32) (hf : fX10_begin N i_this j_this = some o_i_this) : MV l yX10_begin (kws yX10_begin cX10_begin 1 (none)) (kR 0 0) (dC, dI) (kT cI cJ cB) [.ref h_this] [cl_X10 h_this h_this_dayAt h_this_secondAt h_this_spans h_this_kept h_this_text h_this_row h_this_read h_this_many h_this_first h_this_lengths h_this_page i_this j_this] [cl_X10 h_this h_this_dayAt h_this_secondAt h_this_spans h_this_kept h_this_text h_this_row h_this_read h_this_many h_this_first h_this_lengths h_this_page o_i_this j_this] := by
  refine MV.of (cc := cX10_begin) (maxL := 1) (by decide) (Nat.le_of_ble_eq_true rfl) (fun p e s m args below meth c A Q ls KC hN hK hP hD hA hl hEnd => ?_)
  obtain ⟨hx, hb, hml, hown, hts⟩ := KC
  have hown : s.vm.findClass "DateSpansModel" = some m.cls := hown
  have hl : lv_has ls 1 [(0, .ref h_this)] := hl
  have hS : va_S A s.heap s.heap [] := va_S.rf
  have h := hf
  unfold fX10_begin at h
  refine lv_aload_n hx hb dX10_begin_0 rfl (lv_at hl 0 rfl) ?_
  refine lv_aload_n hx hb dX10_begin_1 rfl (lv_at hl 0 rfl) ?_
  refine va_get (D := (dC, dI)) (ci := 9) (v := .int (i_this 6)) (C := RX10) (T := TX10) (N := 29) hx hb hts inX10 hown hK hP 0 rfl rfl 6 (by decide) (hts _ (kq q_992 rfl)) (fun _ h9 => h9) rfl dX10_begin_2 ?_
  refine va_put (D := (dC, dI)) (ci := 9) (v := .int (i_this 6)) (ty := .int) (C := RX10) (T := TX10) (N := 29) hx hb hts inX10 tyX10 tyX10_ok nmX10 hown hK hP hD hS 0 rfl rfl 16 (by decide) (hts _ (kq q_1002 rfl)) (fun _ h9 => h9) rfl (by decide +kernel) rfl rfl (Nat.le_of_ble_eq_true rfl) dX10_begin_5 (fun H locs hP hD hS => ?_)
  have hP : va_P (dC, dI) vwCl [(h_this, .inr (9, [.ref h_this_dayAt, .ref h_this_secondAt, .ref h_this_spans, .ref h_this_kept, .int (i_this 4), .ref h_this_text, .int (i_this 6), .ref h_this_row, .int (i_this 8), .int (i_this 9), .int (i_this 10), .int (i_this 11), .int (i_this 12), .int (i_this 13), .int (i_this 14), .int (i_this 15), .int (i_this 6), .int (i_this 17), .int (i_this 18), .ref h_this_read, .long (j_this 20), .ref h_this_many, .ref h_this_first, .ref h_this_lengths, .int (i_this 24), .long (j_this 25), .long (j_this 26), .ref h_this_page, .int (i_this 28)]))] H := hP
  have hD : va_D A [(h_this, .inr (9, [.ref h_this_dayAt, .ref h_this_secondAt, .ref h_this_spans, .ref h_this_kept, .int (i_this 4), .ref h_this_text, .int (i_this 6), .ref h_this_row, .int (i_this 8), .int (i_this 9), .int (i_this 10), .int (i_this 11), .int (i_this 12), .int (i_this 13), .int (i_this 14), .int (i_this 15), .int (i_this 6), .int (i_this 17), .int (i_this 18), .ref h_this_read, .long (j_this 20), .ref h_this_many, .ref h_this_first, .ref h_this_lengths, .int (i_this 24), .long (j_this 25), .long (j_this 26), .ref h_this_page, .int (i_this 28)]))] := hD
  refine lv_aload_n hx hb dX10_begin_8 rfl (lv_at hl 0 rfl) ?_
  refine lv_iconst (v := (0 : Int32)) hx hb dX10_begin_9 (by decide) ?_
  refine va_put (D := (dC, dI)) (ci := 9) (v := .int (0 : Int32)) (ty := .int) (C := RX10) (T := TX10) (N := 29) hx hb hts inX10 tyX10 tyX10_ok nmX10 hown hK hP hD hS 0 rfl rfl 6 (by decide) (hts _ (kq q_992 rfl)) (fun _ h9 => h9) rfl (by decide +kernel) rfl rfl (Nat.le_of_ble_eq_true rfl) dX10_begin_10 (fun H locs hP hD hS => ?_)
  have hP : va_P (dC, dI) vwCl [(h_this, .inr (9, [.ref h_this_dayAt, .ref h_this_secondAt, .ref h_this_spans, .ref h_this_kept, .int (i_this 4), .ref h_this_text, .int (0 : Int32), .ref h_this_row, .int (i_this 8), .int (i_this 9), .int (i_this 10), .int (i_this 11), .int (i_this 12), .int (i_this 13), .int (i_this 14), .int (i_this 15), .int (i_this 6), .int (i_this 17), .int (i_this 18), .ref h_this_read, .long (j_this 20), .ref h_this_many, .ref h_this_first, .ref h_this_lengths, .int (i_this 24), .long (j_this 25), .long (j_this 26), .ref h_this_page, .int (i_this 28)]))] H := hP
  have hD : va_D A [(h_this, .inr (9, [.ref h_this_dayAt, .ref h_this_secondAt, .ref h_this_spans, .ref h_this_kept, .int (i_this 4), .ref h_this_text, .int (0 : Int32), .ref h_this_row, .int (i_this 8), .int (i_this 9), .int (i_this 10), .int (i_this 11), .int (i_this 12), .int (i_this 13), .int (i_this 14), .int (i_this 15), .int (i_this 6), .int (i_this 17), .int (i_this 18), .ref h_this_read, .long (j_this 20), .ref h_this_many, .ref h_this_first, .ref h_this_lengths, .int (i_this 24), .long (j_this 25), .long (j_this 26), .ref h_this_page, .int (i_this 28)]))] := hD
  refine lv_aload_n hx hb dX10_begin_13 rfl (lv_at hl 0 rfl) ?_
  refine lv_iconst (v := (0 : Int32)) hx hb dX10_begin_14 (by decide) ?_
  refine va_put (D := (dC, dI)) (ci := 9) (v := .int (0 : Int32)) (ty := .int) (C := RX10) (T := TX10) (N := 29) hx hb hts inX10 tyX10 tyX10_ok nmX10 hown hK hP hD hS 0 rfl rfl 17 (by decide) (hts _ (kq q_1003 rfl)) (fun _ h9 => h9) rfl (by decide +kernel) rfl rfl (Nat.le_of_ble_eq_true rfl) dX10_begin_15 (fun H locs hP hD hS => ?_)
  have hP : va_P (dC, dI) vwCl [(h_this, .inr (9, [.ref h_this_dayAt, .ref h_this_secondAt, .ref h_this_spans, .ref h_this_kept, .int (i_this 4), .ref h_this_text, .int (0 : Int32), .ref h_this_row, .int (i_this 8), .int (i_this 9), .int (i_this 10), .int (i_this 11), .int (i_this 12), .int (i_this 13), .int (i_this 14), .int (i_this 15), .int (i_this 6), .int (0 : Int32), .int (i_this 18), .ref h_this_read, .long (j_this 20), .ref h_this_many, .ref h_this_first, .ref h_this_lengths, .int (i_this 24), .long (j_this 25), .long (j_this 26), .ref h_this_page, .int (i_this 28)]))] H := hP
  have hD : va_D A [(h_this, .inr (9, [.ref h_this_dayAt, .ref h_this_secondAt, .ref h_this_spans, .ref h_this_kept, .int (i_this 4), .ref h_this_text, .int (0 : Int32), .ref h_this_row, .int (i_this 8), .int (i_this 9), .int (i_this 10), .int (i_this 11), .int (i_this 12), .int (i_this 13), .int (i_this 14), .int (i_this 15), .int (i_this 6), .int (0 : Int32), .int (i_this 18), .ref h_this_read, .long (j_this 20), .ref h_this_many, .ref h_this_first, .ref h_this_lengths, .int (i_this 24), .long (j_this 25), .long (j_this 26), .ref h_this_page, .int (i_this 28)]))] := hD
  refine lv_aload_n hx hb dX10_begin_18 rfl (lv_at hl 0 rfl) ?_
  refine lv_iconst (v := (-1 : Int32)) hx hb dX10_begin_19 (by decide) ?_
  refine va_put (D := (dC, dI)) (ci := 9) (v := .int (-1 : Int32)) (ty := .int) (C := RX10) (T := TX10) (N := 29) hx hb hts inX10 tyX10 tyX10_ok nmX10 hown hK hP hD hS 0 rfl rfl 18 (by decide) (hts _ (kq q_1004 rfl)) (fun _ h9 => h9) rfl (by decide +kernel) rfl rfl (Nat.le_of_ble_eq_true rfl) dX10_begin_20 (fun H locs hP hD hS => ?_)
  have hP : va_P (dC, dI) vwCl [(h_this, .inr (9, [.ref h_this_dayAt, .ref h_this_secondAt, .ref h_this_spans, .ref h_this_kept, .int (i_this 4), .ref h_this_text, .int (0 : Int32), .ref h_this_row, .int (i_this 8), .int (i_this 9), .int (i_this 10), .int (i_this 11), .int (i_this 12), .int (i_this 13), .int (i_this 14), .int (i_this 15), .int (i_this 6), .int (0 : Int32), .int (-1 : Int32), .ref h_this_read, .long (j_this 20), .ref h_this_many, .ref h_this_first, .ref h_this_lengths, .int (i_this 24), .long (j_this 25), .long (j_this 26), .ref h_this_page, .int (i_this 28)]))] H := hP
  have hD : va_D A [(h_this, .inr (9, [.ref h_this_dayAt, .ref h_this_secondAt, .ref h_this_spans, .ref h_this_kept, .int (i_this 4), .ref h_this_text, .int (0 : Int32), .ref h_this_row, .int (i_this 8), .int (i_this 9), .int (i_this 10), .int (i_this 11), .int (i_this 12), .int (i_this 13), .int (i_this 14), .int (i_this 15), .int (i_this 6), .int (0 : Int32), .int (-1 : Int32), .ref h_this_read, .long (j_this 20), .ref h_this_many, .ref h_this_first, .ref h_this_lengths, .int (i_this 24), .long (j_this 25), .long (j_this 26), .ref h_this_page, .int (i_this 28)]))] := hD
  have hP : va_P (dC, dI) vwCl [cl_X10 h_this h_this_dayAt h_this_secondAt h_this_spans h_this_kept h_this_text h_this_row h_this_read h_this_many h_this_first h_this_lengths h_this_page (upd (upd (upd (upd i_this 6 (0 : Int32)) 16 (i_this 6)) 17 (0 : Int32)) 18 (-1 : Int32)) j_this] H := hP
  have hD : va_D A [cl_X10 h_this h_this_dayAt h_this_secondAt h_this_spans h_this_kept h_this_text h_this_row h_this_read h_this_many h_this_first h_this_lengths h_this_page (upd (upd (upd (upd i_this 6 (0 : Int32)) 16 (i_this 6)) 17 (0 : Int32)) 18 (-1 : Int32)) j_this] := hD
  obtain rfl := pj1 h
  exact hEnd _ _ _ _ hP hS dX10_begin_23
noncomputable def fX10_sees (N : Nat) (i_this : Nat → Int32) (j_this : Nat → Int64) (f_this_text : Nat → Int32) : Option (Int32) := (if (i_this 16) ≤ (i_this 17) then (some (-1 : Int32)) else (gi (i_this 17) 100 (some ((f_this_text (i_this 17).toNatClampNeg) &&& (255 : Int32)))))
set_option maxHeartbeats 4000000 in
set_option maxRecDepth 100000 in
theorem kX10_sees (l : Launch) (dC : Nat → ClassId) (dI : Nat → Nat → Nat) (cI cJ cB : ClassId) (h_this h_this_dayAt h_this_secondAt h_this_spans h_this_kept h_this_text h_this_row h_this_read h_this_many h_this_first h_this_lengths h_this_page : Nat) (N : Nat) (i_this : Nat → Int32) (j_this : Nat → Int64) (f_this_text : Nat → Int32) (r : Int32) (hf : fX10_sees N i_this j_this f_this_text = some r) : MI l yX10_sees (kws yX10_sees cX10_sees 1 (some .int)) (kR 0 0) (dC, dI) (kT cI cJ cB) [.ref h_this] [cl_X10 h_this h_this_dayAt h_this_secondAt h_this_spans h_this_kept h_this_text h_this_row h_this_read h_this_many h_this_first h_this_lengths h_this_page i_this j_this, (h_this_text, .inl (cB, 100, .inl f_this_text))] [cl_X10 h_this h_this_dayAt h_this_secondAt h_this_spans h_this_kept h_this_text h_this_row h_this_read h_this_many h_this_first h_this_lengths h_this_page i_this j_this, (h_this_text, .inl (cB, 100, .inl f_this_text))] r := by
  refine MI.of (cc := cX10_sees) (maxL := 1) (by decide) (Nat.le_of_ble_eq_true rfl) (fun p e s m args below meth c A Q ls KC hN hK hP hD hA hl hEnd => ?_)
  obtain ⟨hx, hb, hml, hown, hts⟩ := KC
  have hown : s.vm.findClass "DateSpansModel" = some m.cls := hown
  have hl : lv_has ls 1 [(0, .ref h_this)] := hl
  have hS : va_S A s.heap s.heap [] := va_S.rf
  have h := hf
  unfold fX10_sees at h
  refine lv_aload_n hx hb dX10_sees_0 rfl (lv_at hl 0 rfl) ?_
  refine va_get (D := (dC, dI)) (ci := 9) (v := .int (i_this 17)) (C := RX10) (T := TX10) (N := 29) hx hb hts inX10 hown hK hP 0 rfl rfl 17 (by decide) (hts _ (kq q_1003 rfl)) (fun _ h9 => h9) rfl dX10_sees_1 ?_
  refine lv_aload_n hx hb dX10_sees_4 rfl (lv_at hl 0 rfl) ?_
  refine va_get (D := (dC, dI)) (ci := 9) (v := .int (i_this 16)) (C := RX10) (T := TX10) (N := 29) hx hb hts inX10 hown hK hP 0 rfl rfl 16 (by decide) (hts _ (kq q_1002 rfl)) (fun _ h9 => h9) rfl dX10_sees_5 ?_
  refine lv_icmp_ge (tgt := 27) hx hb dX10_sees_8 (by decide) (fun c1 => ?_) (fun c1 => ?_)
  · have h := ite_t c1 h
    refine lv_iconst (v := (-1 : Int32)) hx hb dX10_sees_27 (by decide) ?_
    obtain rfl := pj1 h
    exact hEnd _ _ _ _ hP hS dX10_sees_28 rfl
  have h := ite_f c1 h
  refine lv_aload_n hx hb dX10_sees_11 rfl (lv_at hl 0 rfl) ?_
  refine va_get (D := (dC, dI)) (ci := 9) (v := .ref h_this_text) (C := RX10) (T := TX10) (N := 29) hx hb hts inX10 hown hK hP 0 rfl rfl 5 (by decide) (hts _ (kq q_991 rfl)) (fun _ h9 => h9) rfl dX10_sees_12 ?_
  refine lv_aload_n hx hb dX10_sees_15 rfl (lv_at hl 0 rfl) ?_
  refine va_get (D := (dC, dI)) (ci := 9) (v := .int (i_this 17)) (C := RX10) (T := TX10) (N := 29) hx hb hts inX10 hown hK hP 0 rfl rfl 17 (by decide) (hts _ (kq q_1003 rfl)) (fun _ h9 => h9) rfl dX10_sees_16 ?_
  obtain ⟨hi2, h⟩ := gi_at h
  refine va_bald hx hb hK hP 1 2 rfl rfl hi2 dX10_sees_19 ?_
  refine lv_sipush (v := (255 : Int32)) hx hb dX10_sees_20 (by decide) ?_
  refine lv_iand hx hb dX10_sees_23 ?_
  refine lv_goto (tgt := 28) hx hb dX10_sees_24 (by decide) ?_
  obtain rfl := pj1 h
  exact hEnd _ _ _ _ hP hS dX10_sees_28 rfl
noncomputable def fX10_fault (N : Nat) (p1 : Int32) (i_this : Nat → Int32) (j_this : Nat → Int64) : Option ((Nat → Int32)) := (if (i_this 18) = (-1 : Int32) then (some (upd i_this 18 p1)) else (some i_this))
set_option maxHeartbeats 4000000 in
set_option maxRecDepth 100000 in
theorem kX10_fault (l : Launch) (dC : Nat → ClassId) (dI : Nat → Nat → Nat) (cI cJ cB : ClassId) (h_this h_this_dayAt h_this_secondAt h_this_spans h_this_kept h_this_text h_this_row h_this_read h_this_many h_this_first h_this_lengths h_this_page : Nat) (N : Nat) (p1 : Int32) (i_this : Nat → Int32) (j_this : Nat → Int64) (o_i_this : Nat → Int32) (hf : fX10_fault N p1 i_this j_this = some o_i_this) : MV l yX10_fault (kws yX10_fault cX10_fault 2 (none)) (kR 0 0) (dC, dI) (kT cI cJ cB) [.ref h_this, .int p1] [cl_X10 h_this h_this_dayAt h_this_secondAt h_this_spans h_this_kept h_this_text h_this_row h_this_read h_this_many h_this_first h_this_lengths h_this_page i_this j_this] [cl_X10 h_this h_this_dayAt h_this_secondAt h_this_spans h_this_kept h_this_text h_this_row h_this_read h_this_many h_this_first h_this_lengths h_this_page o_i_this j_this] := by
  refine MV.of (cc := cX10_fault) (maxL := 2) (by decide) (Nat.le_of_ble_eq_true rfl) (fun p e s m args below meth c A Q ls KC hN hK hP hD hA hl hEnd => ?_)
  obtain ⟨hx, hb, hml, hown, hts⟩ := KC
  have hown : s.vm.findClass "DateSpansModel" = some m.cls := hown
  have hl : lv_has ls 2 [(0, .ref h_this), (1, .int p1)] := hl
  have hS : va_S A s.heap s.heap [] := va_S.rf
  have h := hf
  unfold fX10_fault at h
  refine lv_aload_n hx hb dX10_fault_0 rfl (lv_at hl 0 rfl) ?_
  refine va_get (D := (dC, dI)) (ci := 9) (v := .int (i_this 18)) (C := RX10) (T := TX10) (N := 29) hx hb hts inX10 hown hK hP 0 rfl rfl 18 (by decide) (hts _ (kq q_1004 rfl)) (fun _ h9 => h9) rfl dX10_fault_1 ?_
  refine lv_iconst (v := (-1 : Int32)) hx hb dX10_fault_4 (by decide) ?_
  refine lv_icmp_ne (tgt := 13) hx hb dX10_fault_5 (by decide) (fun c1 => ?_) (fun c1 => ?_)
  · have h := ite_f c1 h
    obtain rfl := pj1 h
    exact hEnd _ _ _ _ hP hS dX10_fault_13
  have h := ite_t c1 h
  refine lv_aload_n hx hb dX10_fault_8 rfl (lv_at hl 0 rfl) ?_
  refine lv_iload_n hx hb dX10_fault_9 rfl (lv_at hl 1 rfl) ?_
  refine va_put (D := (dC, dI)) (ci := 9) (v := .int p1) (ty := .int) (C := RX10) (T := TX10) (N := 29) hx hb hts inX10 tyX10 tyX10_ok nmX10 hown hK hP hD hS 0 rfl rfl 18 (by decide) (hts _ (kq q_1004 rfl)) (fun _ h9 => h9) rfl (by decide +kernel) rfl rfl (Nat.le_of_ble_eq_true rfl) dX10_fault_10 (fun H locs hP hD hS => ?_)
  have hP : va_P (dC, dI) vwCl [(h_this, .inr (9, [.ref h_this_dayAt, .ref h_this_secondAt, .ref h_this_spans, .ref h_this_kept, .int (i_this 4), .ref h_this_text, .int (i_this 6), .ref h_this_row, .int (i_this 8), .int (i_this 9), .int (i_this 10), .int (i_this 11), .int (i_this 12), .int (i_this 13), .int (i_this 14), .int (i_this 15), .int (i_this 16), .int (i_this 17), .int p1, .ref h_this_read, .long (j_this 20), .ref h_this_many, .ref h_this_first, .ref h_this_lengths, .int (i_this 24), .long (j_this 25), .long (j_this 26), .ref h_this_page, .int (i_this 28)]))] H := hP
  have hD : va_D A [(h_this, .inr (9, [.ref h_this_dayAt, .ref h_this_secondAt, .ref h_this_spans, .ref h_this_kept, .int (i_this 4), .ref h_this_text, .int (i_this 6), .ref h_this_row, .int (i_this 8), .int (i_this 9), .int (i_this 10), .int (i_this 11), .int (i_this 12), .int (i_this 13), .int (i_this 14), .int (i_this 15), .int (i_this 16), .int (i_this 17), .int p1, .ref h_this_read, .long (j_this 20), .ref h_this_many, .ref h_this_first, .ref h_this_lengths, .int (i_this 24), .long (j_this 25), .long (j_this 26), .ref h_this_page, .int (i_this 28)]))] := hD
  have hP : va_P (dC, dI) vwCl [cl_X10 h_this h_this_dayAt h_this_secondAt h_this_spans h_this_kept h_this_text h_this_row h_this_read h_this_many h_this_first h_this_lengths h_this_page (upd i_this 18 p1) j_this] H := hP
  have hD : va_D A [cl_X10 h_this h_this_dayAt h_this_secondAt h_this_spans h_this_kept h_this_text h_this_row h_this_read h_this_many h_this_first h_this_lengths h_this_page (upd i_this 18 p1) j_this] := hD
  obtain rfl := pj1 h
  exact hEnd _ _ _ _ hP hS dX10_fault_13
noncomputable def fX10_digit (N : Nat) (p1 : Int32) (p2 : Int32) (i_this : Nat → Int32) (j_this : Nat → Int64) (f_this_text : Nat → Int32) : Option (Int32 × (Nat → Int32)) := (if (i_this 18) = (-1 : Int32) then (bd1 (fX10_sees N i_this j_this f_this_text) fun r2 => (bd1 (fX10_in N r2.toInt64 (((48 : Int32) + p1).toInt64) (((48 : Int32) + p2).toInt64)) fun r4 => (if r4 = (0 : Int32) then (bd1 (fX10_fault N (i_this 17) i_this j_this) fun i_this_8 => (some (p1, i_this_8))) else (gi (((i_this 17) + (1 : Int32)) - (1 : Int32)) 100 (some (((f_this_text (((i_this 17) + (1 : Int32)) - (1 : Int32)).toNatClampNeg) - (48 : Int32)), (upd i_this 17 ((i_this 17) + (1 : Int32))))))))) else (some (p1, i_this)))
set_option maxHeartbeats 4000000 in
set_option maxRecDepth 100000 in
theorem kX10_digit (l : Launch) (dC : Nat → ClassId) (dI : Nat → Nat → Nat) (cI cJ cB : ClassId) (h_this h_this_dayAt h_this_secondAt h_this_spans h_this_kept h_this_text h_this_row h_this_read h_this_many h_this_first h_this_lengths h_this_page : Nat) (N : Nat) (p1 : Int32) (p2 : Int32) (i_this : Nat → Int32) (j_this : Nat → Int64) (f_this_text : Nat → Int32) (r : Int32) (o_i_this : Nat → Int32) (hf : fX10_digit N p1 p2 i_this j_this f_this_text = some (r, o_i_this)) : MI l yX10_digit (kws yX10_digit cX10_digit 3 (some .int)) (kR 1 25) (dC, dI) (kT cI cJ cB) [.ref h_this, .int p1, .int p2] [cl_X10 h_this h_this_dayAt h_this_secondAt h_this_spans h_this_kept h_this_text h_this_row h_this_read h_this_many h_this_first h_this_lengths h_this_page i_this j_this, (h_this_text, .inl (cB, 100, .inl f_this_text))] [cl_X10 h_this h_this_dayAt h_this_secondAt h_this_spans h_this_kept h_this_text h_this_row h_this_read h_this_many h_this_first h_this_lengths h_this_page o_i_this j_this, (h_this_text, .inl (cB, 100, .inl f_this_text))] r := by
  refine MI.of (cc := cX10_digit) (maxL := 3) (by decide) (Nat.le_of_ble_eq_true rfl) (fun p e s m args below meth c A Q ls KC hN hK hP hD hA hl hEnd => ?_)
  obtain ⟨hx, hb, hml, hown, hts⟩ := KC
  have hown : s.vm.findClass "DateSpansModel" = some m.cls := hown
  have hl : lv_has ls 3 [(0, .ref h_this), (1, .int p1), (2, .int p2)] := hl
  have hS : va_S A s.heap s.heap [] := va_S.rf
  have h := hf
  unfold fX10_digit at h
  refine lv_aload_n hx hb dX10_digit_0 rfl (lv_at hl 0 rfl) ?_
  refine va_get (D := (dC, dI)) (ci := 9) (v := .int (i_this 18)) (C := RX10) (T := TX10) (N := 29) hx hb hts inX10 hown hK hP 0 rfl rfl 18 (by decide) (hts _ (kq q_1004 rfl)) (fun _ h9 => h9) rfl dX10_digit_1 ?_
  refine lv_iconst (v := (-1 : Int32)) hx hb dX10_digit_4 (by decide) ?_
  refine lv_icmp_eq (tgt := 10) hx hb dX10_digit_5 (by decide) (fun c1 => ?_) (fun c1 => ?_)
  · have h := ite_t c1 h
    refine lv_aload_n hx hb dX10_digit_10 rfl (lv_at hl 0 rfl) ?_
    obtain ⟨r2, hc3, h⟩ := bd1_at h
    refine kjI (kV (own := "DateSpansModel") (C := "DateSpansModel") (b := h_this) (As := []) (rest := []) ⟨hx, hb, hml, hown, hts⟩ (kX10_sees l dC dI cI cJ cB h_this h_this_dayAt h_this_secondAt h_this_spans h_this_kept h_this_text h_this_row h_this_read h_this_many h_this_first h_this_lengths h_this_page N i_this j_this f_this_text r2 hc3 _) (kgV (kq q_1101 rfl) (kq q_1103 rfl) (kq q_20 rfl) (kq q_66 rfl) (kq q_1104 rfl)) yd_X10_sees ⟨Nat.le_of_ble_eq_true rfl, Nat.le_of_ble_eq_true rfl⟩ hN hK hP hD [0, 1] rfl rfl (ci := 9) rfl rfl rfl rfl rfl hl.1 rfl (lv_room (Nat.le_of_ble_eq_true rfl)) dX10_digit_11) hP hD hS hA [0, 1] rfl rfl (fun H locs hP hD hS => ?_)
    have hP : va_P (dC, dI) vwCl [cl_X10 h_this h_this_dayAt h_this_secondAt h_this_spans h_this_kept h_this_text h_this_row h_this_read h_this_many h_this_first h_this_lengths h_this_page i_this j_this, (h_this_text, .inl (cB, 100, .inl f_this_text))] H := hP
    have hD : va_D A [cl_X10 h_this h_this_dayAt h_this_secondAt h_this_spans h_this_kept h_this_text h_this_row h_this_read h_this_many h_this_first h_this_lengths h_this_page i_this j_this, (h_this_text, .inl (cB, 100, .inl f_this_text))] := hD
    refine lv_i2l hx hb dX10_digit_14 rfl ?_
    refine lv_bipush (v := (48 : Int32)) hx hb dX10_digit_15 (by decide) ?_
    refine lv_iload_n hx hb dX10_digit_17 rfl (lv_at hl 1 rfl) ?_
    refine lv_iadd hx hb dX10_digit_18 ?_
    refine lv_i2l hx hb dX10_digit_19 rfl ?_
    refine lv_bipush (v := (48 : Int32)) hx hb dX10_digit_20 (by decide) ?_
    refine lv_iload_n hx hb dX10_digit_22 rfl (lv_at hl 2 rfl) ?_
    refine lv_iadd hx hb dX10_digit_23 ?_
    refine lv_i2l hx hb dX10_digit_24 rfl ?_
    obtain ⟨r4, hc5, h⟩ := bd1_at h
    refine kjSI (kS0 (own := "DateSpansModel") (As := [.long r2.toInt64, .long (((48 : Int32) + p1).toInt64), .long (((48 : Int32) + p2).toInt64)]) (rest := []) ⟨hx, hb, hml, hown, hts⟩ (kX10_in l N r2.toInt64 (((48 : Int32) + p1).toInt64) (((48 : Int32) + p2).toInt64) r4 hc5) (kgS (kq q_1086 rfl) (kq q_1087 rfl) (kq q_66 rfl) (kq q_1088 rfl)) yd_X10_in ⟨Nat.le_of_ble_eq_true rfl, Nat.le_of_ble_eq_true rfl⟩ rfl rfl hl.1 rfl (lv_room (Nat.le_of_ble_eq_true rfl)) dX10_digit_25) ?_
    refine lv_if_ne (tgt := 41) hx hb dX10_digit_28 (by decide) (fun c6 => ?_) (fun c6 => ?_)
    · have h := ite_f c6 h
      refine lv_aload_n hx hb dX10_digit_41 rfl (lv_at hl 0 rfl) ?_
      refine lv_dup hx hb dX10_digit_42 rfl ?_
      refine va_get (D := (dC, dI)) (ci := 9) (v := .int (i_this 17)) (C := RX10) (T := TX10) (N := 29) hx hb hts inX10 hown hK hP 0 rfl rfl 17 (by decide) (hts _ (kq q_1003 rfl)) (fun _ h9 => h9) rfl dX10_digit_43 ?_
      refine lv_iconst (v := (1 : Int32)) hx hb dX10_digit_46 (by decide) ?_
      refine lv_iadd hx hb dX10_digit_47 ?_
      refine va_put (D := (dC, dI)) (ci := 9) (v := .int ((i_this 17) + (1 : Int32))) (ty := .int) (C := RX10) (T := TX10) (N := 29) hx hb hts inX10 tyX10 tyX10_ok nmX10 hown hK hP hD hS 0 rfl rfl 17 (by decide) (hts _ (kq q_1003 rfl)) (fun _ h9 => h9) rfl (by decide +kernel) rfl rfl (Nat.le_of_ble_eq_true rfl) dX10_digit_48 (fun H locs hP hD hS => ?_)
      have hP : va_P (dC, dI) vwCl [(h_this, .inr (9, [.ref h_this_dayAt, .ref h_this_secondAt, .ref h_this_spans, .ref h_this_kept, .int (i_this 4), .ref h_this_text, .int (i_this 6), .ref h_this_row, .int (i_this 8), .int (i_this 9), .int (i_this 10), .int (i_this 11), .int (i_this 12), .int (i_this 13), .int (i_this 14), .int (i_this 15), .int (i_this 16), .int ((i_this 17) + (1 : Int32)), .int (i_this 18), .ref h_this_read, .long (j_this 20), .ref h_this_many, .ref h_this_first, .ref h_this_lengths, .int (i_this 24), .long (j_this 25), .long (j_this 26), .ref h_this_page, .int (i_this 28)])), (h_this_text, .inl (cB, 100, .inl f_this_text))] H := hP
      have hD : va_D A [(h_this, .inr (9, [.ref h_this_dayAt, .ref h_this_secondAt, .ref h_this_spans, .ref h_this_kept, .int (i_this 4), .ref h_this_text, .int (i_this 6), .ref h_this_row, .int (i_this 8), .int (i_this 9), .int (i_this 10), .int (i_this 11), .int (i_this 12), .int (i_this 13), .int (i_this 14), .int (i_this 15), .int (i_this 16), .int ((i_this 17) + (1 : Int32)), .int (i_this 18), .ref h_this_read, .long (j_this 20), .ref h_this_many, .ref h_this_first, .ref h_this_lengths, .int (i_this 24), .long (j_this 25), .long (j_this 26), .ref h_this_page, .int (i_this 28)])), (h_this_text, .inl (cB, 100, .inl f_this_text))] := hD
      refine lv_aload_n hx hb dX10_digit_51 rfl (lv_at hl 0 rfl) ?_
      refine va_get (D := (dC, dI)) (ci := 9) (v := .ref h_this_text) (C := RX10) (T := TX10) (N := 29) hx hb hts inX10 hown hK hP 0 rfl rfl 5 (by decide) (hts _ (kq q_991 rfl)) (fun _ h9 => h9) rfl dX10_digit_52 ?_
      refine lv_aload_n hx hb dX10_digit_55 rfl (lv_at hl 0 rfl) ?_
      refine va_get (D := (dC, dI)) (ci := 9) (v := .int ((i_this 17) + (1 : Int32))) (C := RX10) (T := TX10) (N := 29) hx hb hts inX10 hown hK hP 0 rfl rfl 17 (by decide) (hts _ (kq q_1003 rfl)) (fun _ h9 => h9) rfl dX10_digit_56 ?_
      refine lv_iconst (v := (1 : Int32)) hx hb dX10_digit_59 (by decide) ?_
      refine lv_isub hx hb dX10_digit_60 ?_
      obtain ⟨hi7, h⟩ := gi_at h
      refine va_bald hx hb hK hP 1 2 rfl rfl hi7 dX10_digit_61 ?_
      refine lv_bipush (v := (48 : Int32)) hx hb dX10_digit_62 (by decide) ?_
      refine lv_isub hx hb dX10_digit_64 ?_
      have hP : va_P (dC, dI) vwCl [cl_X10 h_this h_this_dayAt h_this_secondAt h_this_spans h_this_kept h_this_text h_this_row h_this_read h_this_many h_this_first h_this_lengths h_this_page (upd i_this 17 ((i_this 17) + (1 : Int32))) j_this, (h_this_text, .inl (cB, 100, .inl f_this_text))] H := hP
      have hD : va_D A [cl_X10 h_this h_this_dayAt h_this_secondAt h_this_spans h_this_kept h_this_text h_this_row h_this_read h_this_many h_this_first h_this_lengths h_this_page (upd i_this 17 ((i_this 17) + (1 : Int32))) j_this, (h_this_text, .inl (cB, 100, .inl f_this_text))] := hD
      obtain ⟨rfl, rfl⟩ := pj2 h
      exact hEnd _ _ _ _ hP hS dX10_digit_65 rfl
    have h := ite_t c6 h
    refine lv_aload_n hx hb dX10_digit_31 rfl (lv_at hl 0 rfl) ?_
    refine lv_aload_n hx hb dX10_digit_32 rfl (lv_at hl 0 rfl) ?_
    refine va_get (D := (dC, dI)) (ci := 9) (v := .int (i_this 17)) (C := RX10) (T := TX10) (N := 29) hx hb hts inX10 hown hK hP 0 rfl rfl 17 (by decide) (hts _ (kq q_1003 rfl)) (fun _ h9 => h9) rfl dX10_digit_33 ?_
    obtain ⟨i_this_8, hc9, h⟩ := bd1_at h
    refine kjV (kV (own := "DateSpansModel") (C := "DateSpansModel") (b := h_this) (As := [.int (i_this 17)]) (rest := []) ⟨hx, hb, hml, hown, hts⟩ (kX10_fault l dC dI cI cJ cB h_this h_this_dayAt h_this_secondAt h_this_spans h_this_kept h_this_text h_this_row h_this_read h_this_many h_this_first h_this_lengths h_this_page N (i_this 17) i_this j_this i_this_8 hc9 _) (kgV (kq q_1105 rfl) (kq q_1107 rfl) (kq q_21 rfl) (kq q_66 rfl) (kq q_1108 rfl)) yd_X10_fault ⟨Nat.le_of_ble_eq_true rfl, Nat.le_of_ble_eq_true rfl⟩ hN hK hP hD [0] rfl rfl (ci := 9) rfl rfl rfl rfl rfl hl.1 rfl (lv_room (Nat.le_of_ble_eq_true rfl)) dX10_digit_36) hP hD hS hA [0] rfl rfl (fun H locs hP hD hS => ?_)
    have hP : va_P (dC, dI) vwCl [cl_X10 h_this h_this_dayAt h_this_secondAt h_this_spans h_this_kept h_this_text h_this_row h_this_read h_this_many h_this_first h_this_lengths h_this_page i_this_8 j_this, (h_this_text, .inl (cB, 100, .inl f_this_text))] H := hP
    have hD : va_D A [cl_X10 h_this h_this_dayAt h_this_secondAt h_this_spans h_this_kept h_this_text h_this_row h_this_read h_this_many h_this_first h_this_lengths h_this_page i_this_8 j_this, (h_this_text, .inl (cB, 100, .inl f_this_text))] := hD
    refine lv_iload_n hx hb dX10_digit_39 rfl (lv_at hl 1 rfl) ?_
    obtain ⟨rfl, rfl⟩ := pj2 h
    exact hEnd _ _ _ _ hP hS dX10_digit_40 rfl
  have h := ite_f c1 h
  refine lv_iload_n hx hb dX10_digit_8 rfl (lv_at hl 1 rfl) ?_
  obtain ⟨rfl, rfl⟩ := pj2 h
  exact hEnd _ _ _ _ hP hS dX10_digit_9 rfl
noncomputable def fX10_expect (N : Nat) (p1 : Int32) (i_this : Nat → Int32) (j_this : Nat → Int64) (f_this_text : Nat → Int32) : Option ((Nat → Int32)) := (if (i_this 18) = (-1 : Int32) then (bd1 (fX10_sees N i_this j_this f_this_text) fun r2 => (if r2 = p1 then (some (upd i_this 17 ((i_this 17) + (1 : Int32)))) else (bd1 (fX10_fault N (i_this 17) i_this j_this) fun i_this_5 => (some i_this_5)))) else (some i_this))
set_option maxHeartbeats 4000000 in
set_option maxRecDepth 100000 in
theorem kX10_expect (l : Launch) (dC : Nat → ClassId) (dI : Nat → Nat → Nat) (cI cJ cB : ClassId) (h_this h_this_dayAt h_this_secondAt h_this_spans h_this_kept h_this_text h_this_row h_this_read h_this_many h_this_first h_this_lengths h_this_page : Nat) (N : Nat) (p1 : Int32) (i_this : Nat → Int32) (j_this : Nat → Int64) (f_this_text : Nat → Int32) (o_i_this : Nat → Int32) (hf : fX10_expect N p1 i_this j_this f_this_text = some o_i_this) : MV l yX10_expect (kws yX10_expect cX10_expect 2 (none)) (kR 1 21) (dC, dI) (kT cI cJ cB) [.ref h_this, .int p1] [cl_X10 h_this h_this_dayAt h_this_secondAt h_this_spans h_this_kept h_this_text h_this_row h_this_read h_this_many h_this_first h_this_lengths h_this_page i_this j_this, (h_this_text, .inl (cB, 100, .inl f_this_text))] [cl_X10 h_this h_this_dayAt h_this_secondAt h_this_spans h_this_kept h_this_text h_this_row h_this_read h_this_many h_this_first h_this_lengths h_this_page o_i_this j_this, (h_this_text, .inl (cB, 100, .inl f_this_text))] := by
  refine MV.of (cc := cX10_expect) (maxL := 2) (by decide) (Nat.le_of_ble_eq_true rfl) (fun p e s m args below meth c A Q ls KC hN hK hP hD hA hl hEnd => ?_)
  obtain ⟨hx, hb, hml, hown, hts⟩ := KC
  have hown : s.vm.findClass "DateSpansModel" = some m.cls := hown
  have hl : lv_has ls 2 [(0, .ref h_this), (1, .int p1)] := hl
  have hS : va_S A s.heap s.heap [] := va_S.rf
  have h := hf
  unfold fX10_expect at h
  refine lv_aload_n hx hb dX10_expect_0 rfl (lv_at hl 0 rfl) ?_
  refine va_get (D := (dC, dI)) (ci := 9) (v := .int (i_this 18)) (C := RX10) (T := TX10) (N := 29) hx hb hts inX10 hown hK hP 0 rfl rfl 18 (by decide) (hts _ (kq q_1004 rfl)) (fun _ h9 => h9) rfl dX10_expect_1 ?_
  refine lv_iconst (v := (-1 : Int32)) hx hb dX10_expect_4 (by decide) ?_
  refine lv_icmp_eq (tgt := 9) hx hb dX10_expect_5 (by decide) (fun c1 => ?_) (fun c1 => ?_)
  · have h := ite_t c1 h
    refine lv_aload_n hx hb dX10_expect_9 rfl (lv_at hl 0 rfl) ?_
    obtain ⟨r2, hc3, h⟩ := bd1_at h
    refine kjI (kV (own := "DateSpansModel") (C := "DateSpansModel") (b := h_this) (As := []) (rest := []) ⟨hx, hb, hml, hown, hts⟩ (kX10_sees l dC dI cI cJ cB h_this h_this_dayAt h_this_secondAt h_this_spans h_this_kept h_this_text h_this_row h_this_read h_this_many h_this_first h_this_lengths h_this_page N i_this j_this f_this_text r2 hc3 _) (kgV (kq q_1101 rfl) (kq q_1103 rfl) (kq q_20 rfl) (kq q_66 rfl) (kq q_1104 rfl)) yd_X10_sees ⟨Nat.le_of_ble_eq_true rfl, Nat.le_of_ble_eq_true rfl⟩ hN hK hP hD [0, 1] rfl rfl (ci := 9) rfl rfl rfl rfl rfl hl.1 rfl (lv_room (Nat.le_of_ble_eq_true rfl)) dX10_expect_10) hP hD hS hA [0, 1] rfl rfl (fun H locs hP hD hS => ?_)
    have hP : va_P (dC, dI) vwCl [cl_X10 h_this h_this_dayAt h_this_secondAt h_this_spans h_this_kept h_this_text h_this_row h_this_read h_this_many h_this_first h_this_lengths h_this_page i_this j_this, (h_this_text, .inl (cB, 100, .inl f_this_text))] H := hP
    have hD : va_D A [cl_X10 h_this h_this_dayAt h_this_secondAt h_this_spans h_this_kept h_this_text h_this_row h_this_read h_this_many h_this_first h_this_lengths h_this_page i_this j_this, (h_this_text, .inl (cB, 100, .inl f_this_text))] := hD
    refine lv_iload_n hx hb dX10_expect_13 rfl (lv_at hl 1 rfl) ?_
    refine lv_icmp_ne (tgt := 30) hx hb dX10_expect_14 (by decide) (fun c4 => ?_) (fun c4 => ?_)
    · have h := ite_f c4 h
      refine lv_aload_n hx hb dX10_expect_30 rfl (lv_at hl 0 rfl) ?_
      refine lv_aload_n hx hb dX10_expect_31 rfl (lv_at hl 0 rfl) ?_
      refine va_get (D := (dC, dI)) (ci := 9) (v := .int (i_this 17)) (C := RX10) (T := TX10) (N := 29) hx hb hts inX10 hown hK hP 0 rfl rfl 17 (by decide) (hts _ (kq q_1003 rfl)) (fun _ h9 => h9) rfl dX10_expect_32 ?_
      obtain ⟨i_this_5, hc6, h⟩ := bd1_at h
      refine kjV (kV (own := "DateSpansModel") (C := "DateSpansModel") (b := h_this) (As := [.int (i_this 17)]) (rest := []) ⟨hx, hb, hml, hown, hts⟩ (kX10_fault l dC dI cI cJ cB h_this h_this_dayAt h_this_secondAt h_this_spans h_this_kept h_this_text h_this_row h_this_read h_this_many h_this_first h_this_lengths h_this_page N (i_this 17) i_this j_this i_this_5 hc6 _) (kgV (kq q_1105 rfl) (kq q_1107 rfl) (kq q_21 rfl) (kq q_66 rfl) (kq q_1108 rfl)) yd_X10_fault ⟨Nat.le_of_ble_eq_true rfl, Nat.le_of_ble_eq_true rfl⟩ hN hK hP hD [0] rfl rfl (ci := 9) rfl rfl rfl rfl rfl hl.1 rfl (lv_room (Nat.le_of_ble_eq_true rfl)) dX10_expect_35) hP hD hS hA [0] rfl rfl (fun H locs hP hD hS => ?_)
      have hP : va_P (dC, dI) vwCl [cl_X10 h_this h_this_dayAt h_this_secondAt h_this_spans h_this_kept h_this_text h_this_row h_this_read h_this_many h_this_first h_this_lengths h_this_page i_this_5 j_this, (h_this_text, .inl (cB, 100, .inl f_this_text))] H := hP
      have hD : va_D A [cl_X10 h_this h_this_dayAt h_this_secondAt h_this_spans h_this_kept h_this_text h_this_row h_this_read h_this_many h_this_first h_this_lengths h_this_page i_this_5 j_this, (h_this_text, .inl (cB, 100, .inl f_this_text))] := hD
      obtain rfl := pj1 h
      exact hEnd _ _ _ _ hP hS dX10_expect_38
    have h := ite_t c4 h
    refine lv_aload_n hx hb dX10_expect_17 rfl (lv_at hl 0 rfl) ?_
    refine lv_dup hx hb dX10_expect_18 rfl ?_
    refine va_get (D := (dC, dI)) (ci := 9) (v := .int (i_this 17)) (C := RX10) (T := TX10) (N := 29) hx hb hts inX10 hown hK hP 0 rfl rfl 17 (by decide) (hts _ (kq q_1003 rfl)) (fun _ h9 => h9) rfl dX10_expect_19 ?_
    refine lv_iconst (v := (1 : Int32)) hx hb dX10_expect_22 (by decide) ?_
    refine lv_iadd hx hb dX10_expect_23 ?_
    refine va_put (D := (dC, dI)) (ci := 9) (v := .int ((i_this 17) + (1 : Int32))) (ty := .int) (C := RX10) (T := TX10) (N := 29) hx hb hts inX10 tyX10 tyX10_ok nmX10 hown hK hP hD hS 0 rfl rfl 17 (by decide) (hts _ (kq q_1003 rfl)) (fun _ h9 => h9) rfl (by decide +kernel) rfl rfl (Nat.le_of_ble_eq_true rfl) dX10_expect_24 (fun H locs hP hD hS => ?_)
    have hP : va_P (dC, dI) vwCl [(h_this, .inr (9, [.ref h_this_dayAt, .ref h_this_secondAt, .ref h_this_spans, .ref h_this_kept, .int (i_this 4), .ref h_this_text, .int (i_this 6), .ref h_this_row, .int (i_this 8), .int (i_this 9), .int (i_this 10), .int (i_this 11), .int (i_this 12), .int (i_this 13), .int (i_this 14), .int (i_this 15), .int (i_this 16), .int ((i_this 17) + (1 : Int32)), .int (i_this 18), .ref h_this_read, .long (j_this 20), .ref h_this_many, .ref h_this_first, .ref h_this_lengths, .int (i_this 24), .long (j_this 25), .long (j_this 26), .ref h_this_page, .int (i_this 28)])), (h_this_text, .inl (cB, 100, .inl f_this_text))] H := hP
    have hD : va_D A [(h_this, .inr (9, [.ref h_this_dayAt, .ref h_this_secondAt, .ref h_this_spans, .ref h_this_kept, .int (i_this 4), .ref h_this_text, .int (i_this 6), .ref h_this_row, .int (i_this 8), .int (i_this 9), .int (i_this 10), .int (i_this 11), .int (i_this 12), .int (i_this 13), .int (i_this 14), .int (i_this 15), .int (i_this 16), .int ((i_this 17) + (1 : Int32)), .int (i_this 18), .ref h_this_read, .long (j_this 20), .ref h_this_many, .ref h_this_first, .ref h_this_lengths, .int (i_this 24), .long (j_this 25), .long (j_this 26), .ref h_this_page, .int (i_this 28)])), (h_this_text, .inl (cB, 100, .inl f_this_text))] := hD
    refine lv_goto (tgt := 38) hx hb dX10_expect_27 (by decide) ?_
    have hP : va_P (dC, dI) vwCl [cl_X10 h_this h_this_dayAt h_this_secondAt h_this_spans h_this_kept h_this_text h_this_row h_this_read h_this_many h_this_first h_this_lengths h_this_page (upd i_this 17 ((i_this 17) + (1 : Int32))) j_this, (h_this_text, .inl (cB, 100, .inl f_this_text))] H := hP
    have hD : va_D A [cl_X10 h_this h_this_dayAt h_this_secondAt h_this_spans h_this_kept h_this_text h_this_row h_this_read h_this_many h_this_first h_this_lengths h_this_page (upd i_this 17 ((i_this 17) + (1 : Int32))) j_this, (h_this_text, .inl (cB, 100, .inl f_this_text))] := hD
    obtain rfl := pj1 h
    exact hEnd _ _ _ _ hP hS dX10_expect_38
  have h := ite_f c1 h
  obtain rfl := pj1 h
  exact hEnd _ _ _ _ hP hS dX10_expect_8
noncomputable def fX10_two_j30 (N : Nat) (j_this : Nat → Int64) (f_this_text : Nat → Int32) (v2 : Int32) (v3 : Int32) (t0 : Int32) (i_this : Nat → Int32) : Option (Int32 × (Nat → Int32)) := (if v3 = (v2 / (10 : Int32)) then (bd2 (fX10_digit N t0 (v2 - v2 / (10 : Int32) * (10 : Int32)) i_this j_this f_this_text) fun r5 i_this_6 => (some ((((10 : Int32) * v3) + r5), i_this_6))) else (bd2 (fX10_digit N t0 (9 : Int32) i_this j_this f_this_text) fun r2 i_this_3 => (some ((((10 : Int32) * v3) + r2), i_this_3))))
noncomputable def fX10_two (N : Nat) (p1 : Int32) (p2 : Int32) (i_this : Nat → Int32) (j_this : Nat → Int64) (f_this_text : Nat → Int32) : Option (Int32 × (Nat → Int32)) := (bd2 (fX10_digit N (p1 / (10 : Int32)) (p2 / (10 : Int32)) i_this j_this f_this_text) fun r8 i_this_9 => (if r8 = (p1 / (10 : Int32)) then (fX10_two_j30 N j_this f_this_text p2 r8 (p1 - p1 / (10 : Int32) * (10 : Int32)) i_this_9) else (fX10_two_j30 N j_this f_this_text p2 r8 (0 : Int32) i_this_9)))
set_option maxHeartbeats 4000000 in
set_option maxRecDepth 100000 in
theorem kX10_two (l : Launch) (dC : Nat → ClassId) (dI : Nat → Nat → Nat) (cI cJ cB : ClassId) (h_this h_this_dayAt h_this_secondAt h_this_spans h_this_kept h_this_text h_this_row h_this_read h_this_many h_this_first h_this_lengths h_this_page : Nat) (N : Nat) (p1 : Int32) (p2 : Int32) (i_this : Nat → Int32) (j_this : Nat → Int64) (f_this_text : Nat → Int32) (r : Int32) (o_i_this : Nat → Int32) (hf : fX10_two N p1 p2 i_this j_this f_this_text = some (r, o_i_this)) : MI l yX10_two (kws yX10_two cX10_two 5 (some .int)) (kR 2 47) (dC, dI) (kT cI cJ cB) [.ref h_this, .int p1, .int p2] [cl_X10 h_this h_this_dayAt h_this_secondAt h_this_spans h_this_kept h_this_text h_this_row h_this_read h_this_many h_this_first h_this_lengths h_this_page i_this j_this, (h_this_text, .inl (cB, 100, .inl f_this_text))] [cl_X10 h_this h_this_dayAt h_this_secondAt h_this_spans h_this_kept h_this_text h_this_row h_this_read h_this_many h_this_first h_this_lengths h_this_page o_i_this j_this, (h_this_text, .inl (cB, 100, .inl f_this_text))] r := by
  refine MI.of (cc := cX10_two) (maxL := 5) (by decide) (Nat.le_of_ble_eq_true rfl) (fun p e s m args below meth c A Q ls KC hN hK hP hD hA hl hEnd => ?_)
  obtain ⟨hx, hb, hml, hown, hts⟩ := KC
  have hown : s.vm.findClass "DateSpansModel" = some m.cls := hown
  have hl : lv_has ls 5 [(0, .ref h_this), (1, .int p1), (2, .int p2)] := hl
  have hS : va_S A s.heap s.heap [] := va_S.rf
  have JN_30 : ∀ (v2 : Int32) (v3 : Int32) (t0 : Int32) (i_this : Nat → Int32) (ls : Array Slot) (H : Heap) (locs : List Loc), (fX10_two_j30 N j_this f_this_text) v2 v3 t0 i_this = some (r, o_i_this) → lv_has ls 5 [(2, .int v2), (3, .int v3)] → va_P (dC, dI) vwCl [cl_X10 h_this h_this_dayAt h_this_secondAt h_this_spans h_this_kept h_this_text h_this_row h_this_read h_this_many h_this_first h_this_lengths h_this_page i_this j_this, (h_this_text, .inl (cB, 100, .inl f_this_text))] H → va_D A [cl_X10 h_this h_this_dayAt h_this_secondAt h_this_spans h_this_kept h_this_text h_this_row h_this_read h_this_many h_this_first h_this_lengths h_this_page i_this j_this, (h_this_text, .inl (cB, 100, .inl f_this_text))] → va_S A s.heap H locs → W p l e (kR 2 47) s m args below meth c H locs 0 0 Q (F0 m 30 ls [.int t0, .ref h_this]) := by
    intro v2 v3 t0 i_this ls H locs h hl hP hD hS
    unfold fX10_two_j30 at h
    refine lv_iload_n hx hb dX10_two_30 rfl (lv_at hl 1 rfl) ?_
    refine lv_iload_n hx hb dX10_two_31 rfl (lv_at hl 0 rfl) ?_
    refine lv_bipush (v := (10 : Int32)) hx hb dX10_two_32 (by decide) ?_
    refine lv_idiv hx hb dX10_two_34 (by decide) ?_
    refine lv_icmp_ne (tgt := 45) hx hb dX10_two_35 (by decide) (fun c1 => ?_) (fun c1 => ?_)
    · have h := ite_f c1 h
      refine lv_bipush (v := (9 : Int32)) hx hb dX10_two_45 (by decide) ?_
      obtain ⟨r2, i_this_3, hc4, h⟩ := bd2_at h
      refine kjI (kV (own := "DateSpansModel") (C := "DateSpansModel") (b := h_this) (As := [.int t0, .int (9 : Int32)]) (rest := []) ⟨hx, hb, hml, hown, hts⟩ (kX10_digit l dC dI cI cJ cB h_this h_this_dayAt h_this_secondAt h_this_spans h_this_kept h_this_text h_this_row h_this_read h_this_many h_this_first h_this_lengths h_this_page N t0 (9 : Int32) i_this j_this f_this_text r2 i_this_3 hc4 _) (kgV (kq q_1097 rfl) (kq q_1099 rfl) (kq q_19 rfl) (kq q_66 rfl) (kq q_1100 rfl)) yd_X10_digit ⟨Nat.le_of_ble_eq_true rfl, Nat.le_of_ble_eq_true rfl⟩ hN hK hP hD [0, 1] rfl rfl (ci := 9) rfl rfl rfl rfl rfl hl.1 rfl (lv_room (Nat.le_of_ble_eq_true rfl)) dX10_two_47) hP hD hS hA [0, 1] rfl rfl (fun H locs hP hD hS => ?_)
      have hP : va_P (dC, dI) vwCl [cl_X10 h_this h_this_dayAt h_this_secondAt h_this_spans h_this_kept h_this_text h_this_row h_this_read h_this_many h_this_first h_this_lengths h_this_page i_this_3 j_this, (h_this_text, .inl (cB, 100, .inl f_this_text))] H := hP
      have hD : va_D A [cl_X10 h_this h_this_dayAt h_this_secondAt h_this_spans h_this_kept h_this_text h_this_row h_this_read h_this_many h_this_first h_this_lengths h_this_page i_this_3 j_this, (h_this_text, .inl (cB, 100, .inl f_this_text))] := hD
      refine lv_istore (lv' := [(4, .int r2), (2, .int v2), (3, .int v3)]) hx hb dX10_two_50 hl (by decide) rfl (fun ls hl => ?_)
      refine lv_bipush (v := (10 : Int32)) hx hb dX10_two_52 (by decide) ?_
      refine lv_iload_n hx hb dX10_two_54 rfl (lv_at hl 2 rfl) ?_
      refine lv_imul hx hb dX10_two_55 ?_
      refine lv_iload hx hb dX10_two_56 (lv_at hl 0 rfl) ?_
      refine lv_iadd hx hb dX10_two_58 ?_
      obtain ⟨rfl, rfl⟩ := pj2 h
      exact hEnd _ _ _ _ hP hS dX10_two_59 rfl
    have h := ite_t c1 h
    refine lv_iload_n hx hb dX10_two_38 rfl (lv_at hl 0 rfl) ?_
    refine lv_bipush (v := (10 : Int32)) hx hb dX10_two_39 (by decide) ?_
    refine lv_irem hx hb dX10_two_41 (by decide) ?_
    refine lv_goto (tgt := 47) hx hb dX10_two_42 (by decide) ?_
    obtain ⟨r5, i_this_6, hc7, h⟩ := bd2_at h
    refine kjI (kV (own := "DateSpansModel") (C := "DateSpansModel") (b := h_this) (As := [.int t0, .int (v2 - v2 / (10 : Int32) * (10 : Int32))]) (rest := []) ⟨hx, hb, hml, hown, hts⟩ (kX10_digit l dC dI cI cJ cB h_this h_this_dayAt h_this_secondAt h_this_spans h_this_kept h_this_text h_this_row h_this_read h_this_many h_this_first h_this_lengths h_this_page N t0 (v2 - v2 / (10 : Int32) * (10 : Int32)) i_this j_this f_this_text r5 i_this_6 hc7 _) (kgV (kq q_1097 rfl) (kq q_1099 rfl) (kq q_19 rfl) (kq q_66 rfl) (kq q_1100 rfl)) yd_X10_digit ⟨Nat.le_of_ble_eq_true rfl, Nat.le_of_ble_eq_true rfl⟩ hN hK hP hD [0, 1] rfl rfl (ci := 9) rfl rfl rfl rfl rfl hl.1 rfl (lv_room (Nat.le_of_ble_eq_true rfl)) dX10_two_47) hP hD hS hA [0, 1] rfl rfl (fun H locs hP hD hS => ?_)
    have hP : va_P (dC, dI) vwCl [cl_X10 h_this h_this_dayAt h_this_secondAt h_this_spans h_this_kept h_this_text h_this_row h_this_read h_this_many h_this_first h_this_lengths h_this_page i_this_6 j_this, (h_this_text, .inl (cB, 100, .inl f_this_text))] H := hP
    have hD : va_D A [cl_X10 h_this h_this_dayAt h_this_secondAt h_this_spans h_this_kept h_this_text h_this_row h_this_read h_this_many h_this_first h_this_lengths h_this_page i_this_6 j_this, (h_this_text, .inl (cB, 100, .inl f_this_text))] := hD
    refine lv_istore (lv' := [(4, .int r5), (2, .int v2), (3, .int v3)]) hx hb dX10_two_50 hl (by decide) rfl (fun ls hl => ?_)
    refine lv_bipush (v := (10 : Int32)) hx hb dX10_two_52 (by decide) ?_
    refine lv_iload_n hx hb dX10_two_54 rfl (lv_at hl 2 rfl) ?_
    refine lv_imul hx hb dX10_two_55 ?_
    refine lv_iload hx hb dX10_two_56 (lv_at hl 0 rfl) ?_
    refine lv_iadd hx hb dX10_two_58 ?_
    obtain ⟨rfl, rfl⟩ := pj2 h
    exact hEnd _ _ _ _ hP hS dX10_two_59 rfl
  have h := hf
  unfold fX10_two at h
  refine lv_aload_n hx hb dX10_two_0 rfl (lv_at hl 0 rfl) ?_
  refine lv_iload_n hx hb dX10_two_1 rfl (lv_at hl 1 rfl) ?_
  refine lv_bipush (v := (10 : Int32)) hx hb dX10_two_2 (by decide) ?_
  refine lv_idiv hx hb dX10_two_4 (by decide) ?_
  refine lv_iload_n hx hb dX10_two_5 rfl (lv_at hl 2 rfl) ?_
  refine lv_bipush (v := (10 : Int32)) hx hb dX10_two_6 (by decide) ?_
  refine lv_idiv hx hb dX10_two_8 (by decide) ?_
  obtain ⟨r8, i_this_9, hc10, h⟩ := bd2_at h
  refine kjI (kV (own := "DateSpansModel") (C := "DateSpansModel") (b := h_this) (As := [.int (p1 / (10 : Int32)), .int (p2 / (10 : Int32))]) (rest := []) ⟨hx, hb, hml, hown, hts⟩ (kX10_digit l dC dI cI cJ cB h_this h_this_dayAt h_this_secondAt h_this_spans h_this_kept h_this_text h_this_row h_this_read h_this_many h_this_first h_this_lengths h_this_page N (p1 / (10 : Int32)) (p2 / (10 : Int32)) i_this j_this f_this_text r8 i_this_9 hc10 _) (kgV (kq q_1097 rfl) (kq q_1099 rfl) (kq q_19 rfl) (kq q_66 rfl) (kq q_1100 rfl)) yd_X10_digit ⟨Nat.le_of_ble_eq_true rfl, Nat.le_of_ble_eq_true rfl⟩ hN hK hP hD [0, 1] rfl rfl (ci := 9) rfl rfl rfl rfl rfl hl.1 rfl (lv_room (Nat.le_of_ble_eq_true rfl)) dX10_two_9) hP hD hS hA [0, 1] rfl rfl (fun H locs hP hD hS => ?_)
  have hP : va_P (dC, dI) vwCl [cl_X10 h_this h_this_dayAt h_this_secondAt h_this_spans h_this_kept h_this_text h_this_row h_this_read h_this_many h_this_first h_this_lengths h_this_page i_this_9 j_this, (h_this_text, .inl (cB, 100, .inl f_this_text))] H := hP
  have hD : va_D A [cl_X10 h_this h_this_dayAt h_this_secondAt h_this_spans h_this_kept h_this_text h_this_row h_this_read h_this_many h_this_first h_this_lengths h_this_page i_this_9 j_this, (h_this_text, .inl (cB, 100, .inl f_this_text))] := hD
  refine lv_istore_n (lv' := [(3, .int r8), (0, .ref h_this), (1, .int p1), (2, .int p2)]) hx hb dX10_two_12 rfl hl (by decide) rfl (fun ls hl => ?_)
  refine lv_aload_n hx hb dX10_two_13 rfl (lv_at hl 1 rfl) ?_
  refine lv_iload_n hx hb dX10_two_14 rfl (lv_at hl 0 rfl) ?_
  refine lv_iload_n hx hb dX10_two_15 rfl (lv_at hl 2 rfl) ?_
  refine lv_bipush (v := (10 : Int32)) hx hb dX10_two_16 (by decide) ?_
  refine lv_idiv hx hb dX10_two_18 (by decide) ?_
  refine lv_icmp_ne (tgt := 29) hx hb dX10_two_19 (by decide) (fun c11 => ?_) (fun c11 => ?_)
  · have h := ite_f c11 h
    refine lv_iconst (v := (0 : Int32)) hx hb dX10_two_29 (by decide) ?_
    exact JN_30 _ _ _ _ _ _ _ h (lv_sub hl [3, 0] rfl) hP hD hS
  have h := ite_t c11 h
  refine lv_iload_n hx hb dX10_two_22 rfl (lv_at hl 2 rfl) ?_
  refine lv_bipush (v := (10 : Int32)) hx hb dX10_two_23 (by decide) ?_
  refine lv_irem hx hb dX10_two_25 (by decide) ?_
  refine lv_goto (tgt := 30) hx hb dX10_two_26 (by decide) ?_
  exact JN_30 _ _ _ _ _ _ _ h (lv_sub hl [3, 0] rfl) hP hD hS
noncomputable def fX10_isLeap (N : Nat) (p1 : Int32) : Option (Int32) := (if (p1 - p1 / (4 : Int32) * (4 : Int32)) = (0 : Int32) then (if (p1 - p1 / (100 : Int32) * (100 : Int32)) = (0 : Int32) then (if (p1 - p1 / (400 : Int32) * (400 : Int32)) = (0 : Int32) then (some (1 : Int32)) else (some (0 : Int32))) else (some (1 : Int32))) else (if (p1 - p1 / (400 : Int32) * (400 : Int32)) = (0 : Int32) then (some (1 : Int32)) else (some (0 : Int32))))
set_option maxHeartbeats 4000000 in
set_option maxRecDepth 100000 in
theorem kX10_isLeap (l : Launch) (N : Nat) (p1 : Int32) (r : Int32) (hf : fX10_isLeap N p1 = some r) : SI l yX10_isLeap (kws yX10_isLeap cX10_isLeap 1 (some .boolean)) (kR 0 0) [.int p1] r := by
  refine SI.of (cc := cX10_isLeap) (maxL := 1) (by decide) (Nat.le_of_ble_eq_true rfl) (fun p e s m args below meth c Q ls KC hl hEnd => ?_)
  obtain ⟨hx, hb, hml, hown, hts⟩ := KC
  have hown : s.vm.findClass "DateSpansModel" = some m.cls := hown
  have hl : lv_has ls 1 [(0, .int p1)] := hl
  have h := hf
  unfold fX10_isLeap at h
  refine lv_iload_n hx hb dX10_isLeap_0 rfl (lv_at hl 0 rfl) ?_
  refine lv_iconst (v := (4 : Int32)) hx hb dX10_isLeap_1 (by decide) ?_
  refine lv_irem hx hb dX10_isLeap_2 (by decide) ?_
  refine lv_if_ne (tgt := 13) hx hb dX10_isLeap_3 (by decide) (fun c1 => ?_) (fun c1 => ?_)
  · have h := ite_f c1 h
    refine lv_iload_n hx hb dX10_isLeap_13 rfl (lv_at hl 0 rfl) ?_
    refine lv_sipush (v := (400 : Int32)) hx hb dX10_isLeap_14 (by decide) ?_
    refine lv_irem hx hb dX10_isLeap_17 (by decide) ?_
    refine lv_if_ne (tgt := 25) hx hb dX10_isLeap_18 (by decide) (fun c2 => ?_) (fun c2 => ?_)
    · have h := ite_f c2 h
      refine lv_iconst (v := (0 : Int32)) hx hb dX10_isLeap_25 (by decide) ?_
      obtain rfl := pj1 h
      exact hEnd _ _ dX10_isLeap_26 rfl
    have h := ite_t c2 h
    refine lv_iconst (v := (1 : Int32)) hx hb dX10_isLeap_21 (by decide) ?_
    refine lv_goto (tgt := 26) hx hb dX10_isLeap_22 (by decide) ?_
    obtain rfl := pj1 h
    exact hEnd _ _ dX10_isLeap_26 rfl
  have h := ite_t c1 h
  refine lv_iload_n hx hb dX10_isLeap_6 rfl (lv_at hl 0 rfl) ?_
  refine lv_bipush (v := (100 : Int32)) hx hb dX10_isLeap_7 (by decide) ?_
  refine lv_irem hx hb dX10_isLeap_9 (by decide) ?_
  refine lv_if_ne (tgt := 21) hx hb dX10_isLeap_10 (by decide) (fun c3 => ?_) (fun c3 => ?_)
  · have h := ite_f c3 h
    refine lv_iconst (v := (1 : Int32)) hx hb dX10_isLeap_21 (by decide) ?_
    refine lv_goto (tgt := 26) hx hb dX10_isLeap_22 (by decide) ?_
    obtain rfl := pj1 h
    exact hEnd _ _ dX10_isLeap_26 rfl
  have h := ite_t c3 h
  refine lv_iload_n hx hb dX10_isLeap_13 rfl (lv_at hl 0 rfl) ?_
  refine lv_sipush (v := (400 : Int32)) hx hb dX10_isLeap_14 (by decide) ?_
  refine lv_irem hx hb dX10_isLeap_17 (by decide) ?_
  refine lv_if_ne (tgt := 25) hx hb dX10_isLeap_18 (by decide) (fun c4 => ?_) (fun c4 => ?_)
  · have h := ite_f c4 h
    refine lv_iconst (v := (0 : Int32)) hx hb dX10_isLeap_25 (by decide) ?_
    obtain rfl := pj1 h
    exact hEnd _ _ dX10_isLeap_26 rfl
  have h := ite_t c4 h
  refine lv_iconst (v := (1 : Int32)) hx hb dX10_isLeap_21 (by decide) ?_
  refine lv_goto (tgt := 26) hx hb dX10_isLeap_22 (by decide) ?_
  obtain rfl := pj1 h
  exact hEnd _ _ dX10_isLeap_26 rfl
noncomputable def fX10_monthDays (N : Nat) (p1 : Int32) (p2 : Int32) : Option (Int32) := (if p2 = (2 : Int32) then (bd1 (fX10_isLeap N p1) fun r6 => (if r6 = (0 : Int32) then (some (28 : Int32)) else (some (29 : Int32)))) else (if p2 = (4 : Int32) then (some (30 : Int32)) else (if p2 = (6 : Int32) then (some (30 : Int32)) else (if p2 = (9 : Int32) then (some (30 : Int32)) else (if p2 = (11 : Int32) then (some (30 : Int32)) else (some (31 : Int32)))))))
set_option maxHeartbeats 4000000 in
set_option maxRecDepth 100000 in
theorem kX10_monthDays (l : Launch) (N : Nat) (p1 : Int32) (p2 : Int32) (r : Int32) (hf : fX10_monthDays N p1 p2 = some r) : SI l yX10_monthDays (kws yX10_monthDays cX10_monthDays 2 (some .int)) (kR 1 20) [.int p1, .int p2] r := by
  refine SI.of (cc := cX10_monthDays) (maxL := 2) (by decide) (Nat.le_of_ble_eq_true rfl) (fun p e s m args below meth c Q ls KC hl hEnd => ?_)
  obtain ⟨hx, hb, hml, hown, hts⟩ := KC
  have hown : s.vm.findClass "DateSpansModel" = some m.cls := hown
  have hl : lv_has ls 2 [(0, .int p1), (1, .int p2)] := hl
  have h := hf
  unfold fX10_monthDays at h
  refine lv_iload_n hx hb dX10_monthDays_0 rfl (lv_at hl 1 rfl) ?_
  refine lv_iconst (v := (2 : Int32)) hx hb dX10_monthDays_1 (by decide) ?_
  refine lv_icmp_ne (tgt := 20) hx hb dX10_monthDays_2 (by decide) (fun c1 => ?_) (fun c1 => ?_)
  · have h := ite_f c1 h
    refine lv_iload_n hx hb dX10_monthDays_20 rfl (lv_at hl 1 rfl) ?_
    refine lv_iconst (v := (4 : Int32)) hx hb dX10_monthDays_21 (by decide) ?_
    refine lv_icmp_eq (tgt := 43) hx hb dX10_monthDays_22 (by decide) (fun c2 => ?_) (fun c2 => ?_)
    · have h := ite_t c2 h
      refine lv_bipush (v := (30 : Int32)) hx hb dX10_monthDays_43 (by decide) ?_
      refine lv_goto (tgt := 50) hx hb dX10_monthDays_45 (by decide) ?_
      obtain rfl := pj1 h
      exact hEnd _ _ dX10_monthDays_50 rfl
    have h := ite_f c2 h
    refine lv_iload_n hx hb dX10_monthDays_25 rfl (lv_at hl 1 rfl) ?_
    refine lv_bipush (v := (6 : Int32)) hx hb dX10_monthDays_26 (by decide) ?_
    refine lv_icmp_eq (tgt := 43) hx hb dX10_monthDays_28 (by decide) (fun c3 => ?_) (fun c3 => ?_)
    · have h := ite_t c3 h
      refine lv_bipush (v := (30 : Int32)) hx hb dX10_monthDays_43 (by decide) ?_
      refine lv_goto (tgt := 50) hx hb dX10_monthDays_45 (by decide) ?_
      obtain rfl := pj1 h
      exact hEnd _ _ dX10_monthDays_50 rfl
    have h := ite_f c3 h
    refine lv_iload_n hx hb dX10_monthDays_31 rfl (lv_at hl 1 rfl) ?_
    refine lv_bipush (v := (9 : Int32)) hx hb dX10_monthDays_32 (by decide) ?_
    refine lv_icmp_eq (tgt := 43) hx hb dX10_monthDays_34 (by decide) (fun c4 => ?_) (fun c4 => ?_)
    · have h := ite_t c4 h
      refine lv_bipush (v := (30 : Int32)) hx hb dX10_monthDays_43 (by decide) ?_
      refine lv_goto (tgt := 50) hx hb dX10_monthDays_45 (by decide) ?_
      obtain rfl := pj1 h
      exact hEnd _ _ dX10_monthDays_50 rfl
    have h := ite_f c4 h
    refine lv_iload_n hx hb dX10_monthDays_37 rfl (lv_at hl 1 rfl) ?_
    refine lv_bipush (v := (11 : Int32)) hx hb dX10_monthDays_38 (by decide) ?_
    refine lv_icmp_ne (tgt := 48) hx hb dX10_monthDays_40 (by decide) (fun c5 => ?_) (fun c5 => ?_)
    · have h := ite_f c5 h
      refine lv_bipush (v := (31 : Int32)) hx hb dX10_monthDays_48 (by decide) ?_
      obtain rfl := pj1 h
      exact hEnd _ _ dX10_monthDays_50 rfl
    have h := ite_t c5 h
    refine lv_bipush (v := (30 : Int32)) hx hb dX10_monthDays_43 (by decide) ?_
    refine lv_goto (tgt := 50) hx hb dX10_monthDays_45 (by decide) ?_
    obtain rfl := pj1 h
    exact hEnd _ _ dX10_monthDays_50 rfl
  have h := ite_t c1 h
  refine lv_iload_n hx hb dX10_monthDays_5 rfl (lv_at hl 0 rfl) ?_
  obtain ⟨r6, hc7, h⟩ := bd1_at h
  refine kjSI (kS0 (own := "DateSpansModel") (As := [.int p1]) (rest := []) ⟨hx, hb, hml, hown, hts⟩ (kX10_isLeap l N p1 r6 hc7) (kgS (kq q_1120 rfl) (kq q_1121 rfl) (kq q_66 rfl) (kq q_1122 rfl)) yd_X10_isLeap ⟨Nat.le_of_ble_eq_true rfl, Nat.le_of_ble_eq_true rfl⟩ rfl rfl hl.1 rfl (lv_room (Nat.le_of_ble_eq_true rfl)) dX10_monthDays_6) ?_
  refine lv_if_eq (tgt := 17) hx hb dX10_monthDays_9 (by decide) (fun c8 => ?_) (fun c8 => ?_)
  · have h := ite_t c8 h
    refine lv_bipush (v := (28 : Int32)) hx hb dX10_monthDays_17 (by decide) ?_
    obtain rfl := pj1 h
    exact hEnd _ _ dX10_monthDays_19 rfl
  have h := ite_f c8 h
  refine lv_bipush (v := (29 : Int32)) hx hb dX10_monthDays_12 (by decide) ?_
  refine lv_goto (tgt := 19) hx hb dX10_monthDays_14 (by decide) ?_
  obtain rfl := pj1 h
  exact hEnd _ _ dX10_monthDays_19 rfl
noncomputable def fX10_isSlot (N : Nat) (p1 : Int32) : Option (Int32) := (bd1 (fX10_in N p1.toInt64 (0 : Int64) (7 : Int64)) fun r1 => (gz r1 (some r1)))
set_option maxHeartbeats 4000000 in
set_option maxRecDepth 100000 in
theorem kX10_isSlot (l : Launch) (N : Nat) (p1 : Int32) (r : Int32) (hf : fX10_isSlot N p1 = some r) : SI l yX10_isSlot (kws yX10_isSlot cX10_isSlot 1 (some .boolean)) (kR 1 25) [.int p1] r := by
  refine SI.of (cc := cX10_isSlot) (maxL := 1) (by decide) (Nat.le_of_ble_eq_true rfl) (fun p e s m args below meth c Q ls KC hl hEnd => ?_)
  obtain ⟨hx, hb, hml, hown, hts⟩ := KC
  have hown : s.vm.findClass "DateSpansModel" = some m.cls := hown
  have hl : lv_has ls 1 [(0, .int p1)] := hl
  have h := hf
  unfold fX10_isSlot at h
  refine lv_iload_n hx hb dX10_isSlot_0 rfl (lv_at hl 0 rfl) ?_
  refine lv_i2l hx hb dX10_isSlot_1 rfl ?_
  refine lv_lconst (v := (0 : Int64)) hx hb dX10_isSlot_2 (by decide) ?_
  refine lv_ldc2 (v := (7 : Int64)) hx hb hown (hts _ (kq q_1126 rfl)) dX10_isSlot_3 ?_
  obtain ⟨r1, hc2, h⟩ := bd1_at h
  refine kjSI (kS0 (own := "DateSpansModel") (As := [.long p1.toInt64, .long (0 : Int64), .long (7 : Int64)]) (rest := []) ⟨hx, hb, hml, hown, hts⟩ (kX10_in l N p1.toInt64 (0 : Int64) (7 : Int64) r1 hc2) (kgS (kq q_1086 rfl) (kq q_1087 rfl) (kq q_66 rfl) (kq q_1088 rfl)) yd_X10_in ⟨Nat.le_of_ble_eq_true rfl, Nat.le_of_ble_eq_true rfl⟩ rfl rfl hl.1 rfl (lv_room (Nat.le_of_ble_eq_true rfl)) dX10_isSlot_6) ?_
  obtain ⟨hz3, h⟩ := gz_at h
  obtain rfl := pj1 h
  exact hEnd _ _ dX10_isSlot_9 hz3
noncomputable def fX10_yearBegins (N : Nat) (p1 : Int32) : Option (Int32) := (nm (p1 - (1 : Int32)) fun z1 => (some (((((365 : Int32) * z1) + (z1 / (4 : Int32))) - (z1 / (100 : Int32))) + (z1 / (400 : Int32)))))
set_option maxHeartbeats 4000000 in
set_option maxRecDepth 100000 in
theorem kX10_yearBegins (l : Launch) (N : Nat) (p1 : Int32) (r : Int32) (hf : fX10_yearBegins N p1 = some r) : SI l yX10_yearBegins (kws yX10_yearBegins cX10_yearBegins 2 (some .int)) (kR 0 0) [.int p1] r := by
  refine SI.of (cc := cX10_yearBegins) (maxL := 2) (by decide) (Nat.le_of_ble_eq_true rfl) (fun p e s m args below meth c Q ls KC hl hEnd => ?_)
  obtain ⟨hx, hb, hml, hown, hts⟩ := KC
  have hown : s.vm.findClass "DateSpansModel" = some m.cls := hown
  have hl : lv_has ls 2 [(0, .int p1)] := hl
  have h := hf
  unfold fX10_yearBegins at h
  refine lv_iload_n hx hb dX10_yearBegins_0 rfl (lv_at hl 0 rfl) ?_
  refine lv_iconst (v := (1 : Int32)) hx hb dX10_yearBegins_1 (by decide) ?_
  refine lv_isub hx hb dX10_yearBegins_2 ?_
  refine lv_topi (fun z1 ez1 => ?_)
  have h := nm_at ez1 h
  refine lv_istore_n (lv' := [(1, .int z1), (0, .int p1)]) hx hb dX10_yearBegins_3 rfl hl (by decide) rfl (fun ls hl => ?_)
  refine lv_sipush (v := (365 : Int32)) hx hb dX10_yearBegins_4 (by decide) ?_
  refine lv_iload_n hx hb dX10_yearBegins_7 rfl (lv_at hl 0 rfl) ?_
  refine lv_imul hx hb dX10_yearBegins_8 ?_
  refine lv_iload_n hx hb dX10_yearBegins_9 rfl (lv_at hl 0 rfl) ?_
  refine lv_iconst (v := (4 : Int32)) hx hb dX10_yearBegins_10 (by decide) ?_
  refine lv_idiv hx hb dX10_yearBegins_11 (by decide) ?_
  refine lv_iadd hx hb dX10_yearBegins_12 ?_
  refine lv_iload_n hx hb dX10_yearBegins_13 rfl (lv_at hl 0 rfl) ?_
  refine lv_bipush (v := (100 : Int32)) hx hb dX10_yearBegins_14 (by decide) ?_
  refine lv_idiv hx hb dX10_yearBegins_16 (by decide) ?_
  refine lv_isub hx hb dX10_yearBegins_17 ?_
  refine lv_iload_n hx hb dX10_yearBegins_18 rfl (lv_at hl 0 rfl) ?_
  refine lv_sipush (v := (400 : Int32)) hx hb dX10_yearBegins_19 (by decide) ?_
  refine lv_idiv hx hb dX10_yearBegins_22 (by decide) ?_
  refine lv_iadd hx hb dX10_yearBegins_23 ?_
  obtain rfl := pj1 h
  exact hEnd _ _ dX10_yearBegins_24 rfl
noncomputable def fX10_ahead (N : Nat) (p1 : Int32) : Option (Int32) := (if p1 = (1 : Int32) then (some (0 : Int32)) else (if p1 = (2 : Int32) then (some (31 : Int32)) else (if p1 = (3 : Int32) then (some (59 : Int32)) else (if p1 = (4 : Int32) then (some (90 : Int32)) else (if p1 = (5 : Int32) then (some (120 : Int32)) else (if p1 = (6 : Int32) then (some (151 : Int32)) else (if p1 = (7 : Int32) then (some (181 : Int32)) else (if p1 = (8 : Int32) then (some (212 : Int32)) else (if p1 = (9 : Int32) then (some (243 : Int32)) else (if p1 = (10 : Int32) then (some (273 : Int32)) else (if p1 = (11 : Int32) then (some (304 : Int32)) else (some (334 : Int32)))))))))))))
set_option maxHeartbeats 4000000 in
set_option maxRecDepth 100000 in
theorem kX10_ahead (l : Launch) (N : Nat) (p1 : Int32) (r : Int32) (hf : fX10_ahead N p1 = some r) : SI l yX10_ahead (kws yX10_ahead cX10_ahead 1 (some .int)) (kR 0 0) [.int p1] r := by
  refine SI.of (cc := cX10_ahead) (maxL := 1) (by decide) (Nat.le_of_ble_eq_true rfl) (fun p e s m args below meth c Q ls KC hl hEnd => ?_)
  obtain ⟨hx, hb, hml, hown, hts⟩ := KC
  have hown : s.vm.findClass "DateSpansModel" = some m.cls := hown
  have hl : lv_has ls 1 [(0, .int p1)] := hl
  have h := hf
  unfold fX10_ahead at h
  refine lv_iload_n hx hb dX10_ahead_0 rfl (lv_at hl 0 rfl) ?_
  by_cases c1 : p1 = (1 : Int32)
  · have h := ite_t c1 h
    refine lv_tableIn (x := p1) (tgt := 60) hx hb dX10_ahead_1 (by rw [c1]; decide) (by rw [c1]; decide) (by rw [c1]; rfl) (by decide) ?_
    refine lv_iconst (v := (0 : Int32)) hx hb dX10_ahead_60 (by decide) ?_
    obtain rfl := pj1 h
    exact hEnd _ _ dX10_ahead_61 rfl
  have h := ite_f c1 h
  by_cases c2 : p1 = (2 : Int32)
  · have h := ite_t c2 h
    refine lv_tableIn (x := p1) (tgt := 62) hx hb dX10_ahead_1 (by rw [c2]; decide) (by rw [c2]; decide) (by rw [c2]; rfl) (by decide) ?_
    refine lv_bipush (v := (31 : Int32)) hx hb dX10_ahead_62 (by decide) ?_
    obtain rfl := pj1 h
    exact hEnd _ _ dX10_ahead_64 rfl
  have h := ite_f c2 h
  by_cases c3 : p1 = (3 : Int32)
  · have h := ite_t c3 h
    refine lv_tableIn (x := p1) (tgt := 65) hx hb dX10_ahead_1 (by rw [c3]; decide) (by rw [c3]; decide) (by rw [c3]; rfl) (by decide) ?_
    refine lv_bipush (v := (59 : Int32)) hx hb dX10_ahead_65 (by decide) ?_
    obtain rfl := pj1 h
    exact hEnd _ _ dX10_ahead_67 rfl
  have h := ite_f c3 h
  by_cases c4 : p1 = (4 : Int32)
  · have h := ite_t c4 h
    refine lv_tableIn (x := p1) (tgt := 68) hx hb dX10_ahead_1 (by rw [c4]; decide) (by rw [c4]; decide) (by rw [c4]; rfl) (by decide) ?_
    refine lv_bipush (v := (90 : Int32)) hx hb dX10_ahead_68 (by decide) ?_
    obtain rfl := pj1 h
    exact hEnd _ _ dX10_ahead_70 rfl
  have h := ite_f c4 h
  by_cases c5 : p1 = (5 : Int32)
  · have h := ite_t c5 h
    refine lv_tableIn (x := p1) (tgt := 71) hx hb dX10_ahead_1 (by rw [c5]; decide) (by rw [c5]; decide) (by rw [c5]; rfl) (by decide) ?_
    refine lv_bipush (v := (120 : Int32)) hx hb dX10_ahead_71 (by decide) ?_
    obtain rfl := pj1 h
    exact hEnd _ _ dX10_ahead_73 rfl
  have h := ite_f c5 h
  by_cases c6 : p1 = (6 : Int32)
  · have h := ite_t c6 h
    refine lv_tableIn (x := p1) (tgt := 74) hx hb dX10_ahead_1 (by rw [c6]; decide) (by rw [c6]; decide) (by rw [c6]; rfl) (by decide) ?_
    refine lv_sipush (v := (151 : Int32)) hx hb dX10_ahead_74 (by decide) ?_
    obtain rfl := pj1 h
    exact hEnd _ _ dX10_ahead_77 rfl
  have h := ite_f c6 h
  by_cases c7 : p1 = (7 : Int32)
  · have h := ite_t c7 h
    refine lv_tableIn (x := p1) (tgt := 78) hx hb dX10_ahead_1 (by rw [c7]; decide) (by rw [c7]; decide) (by rw [c7]; rfl) (by decide) ?_
    refine lv_sipush (v := (181 : Int32)) hx hb dX10_ahead_78 (by decide) ?_
    obtain rfl := pj1 h
    exact hEnd _ _ dX10_ahead_81 rfl
  have h := ite_f c7 h
  by_cases c8 : p1 = (8 : Int32)
  · have h := ite_t c8 h
    refine lv_tableIn (x := p1) (tgt := 82) hx hb dX10_ahead_1 (by rw [c8]; decide) (by rw [c8]; decide) (by rw [c8]; rfl) (by decide) ?_
    refine lv_sipush (v := (212 : Int32)) hx hb dX10_ahead_82 (by decide) ?_
    obtain rfl := pj1 h
    exact hEnd _ _ dX10_ahead_85 rfl
  have h := ite_f c8 h
  by_cases c9 : p1 = (9 : Int32)
  · have h := ite_t c9 h
    refine lv_tableIn (x := p1) (tgt := 86) hx hb dX10_ahead_1 (by rw [c9]; decide) (by rw [c9]; decide) (by rw [c9]; rfl) (by decide) ?_
    refine lv_sipush (v := (243 : Int32)) hx hb dX10_ahead_86 (by decide) ?_
    obtain rfl := pj1 h
    exact hEnd _ _ dX10_ahead_89 rfl
  have h := ite_f c9 h
  by_cases c10 : p1 = (10 : Int32)
  · have h := ite_t c10 h
    refine lv_tableIn (x := p1) (tgt := 90) hx hb dX10_ahead_1 (by rw [c10]; decide) (by rw [c10]; decide) (by rw [c10]; rfl) (by decide) ?_
    refine lv_sipush (v := (273 : Int32)) hx hb dX10_ahead_90 (by decide) ?_
    obtain rfl := pj1 h
    exact hEnd _ _ dX10_ahead_93 rfl
  have h := ite_f c10 h
  by_cases c11 : p1 = (11 : Int32)
  · have h := ite_t c11 h
    refine lv_tableIn (x := p1) (tgt := 94) hx hb dX10_ahead_1 (by rw [c11]; decide) (by rw [c11]; decide) (by rw [c11]; rfl) (by decide) ?_
    refine lv_sipush (v := (304 : Int32)) hx hb dX10_ahead_94 (by decide) ?_
    obtain rfl := pj1 h
    exact hEnd _ _ dX10_ahead_97 rfl
  have h := ite_f c11 h
  have gc1 := kne (k := 1) (by decide) c1
  have gc2 := kne (k := 2) (by decide) c2
  have gc3 := kne (k := 3) (by decide) c3
  have gc4 := kne (k := 4) (by decide) c4
  have gc5 := kne (k := 5) (by decide) c5
  have gc6 := kne (k := 6) (by decide) c6
  have gc7 := kne (k := 7) (by decide) c7
  have gc8 := kne (k := 8) (by decide) c8
  have gc9 := kne (k := 9) (by decide) c9
  have gc10 := kne (k := 10) (by decide) c10
  have gc11 := kne (k := 11) (by decide) c11
  refine lv_tableOut (x := p1) (tgt := 98) hx hb dX10_ahead_1 (by omega) (by decide) ?_
  refine lv_sipush (v := (334 : Int32)) hx hb dX10_ahead_98 (by decide) ?_
  obtain rfl := pj1 h
  exact hEnd _ _ dX10_ahead_101 rfl
noncomputable def fX10_dayOf (N : Nat) (p1 : Int32) (p2 : Int32) (p3 : Int32) : Option (Int32) := (bd1 (fX10_yearBegins N p1) fun r1 => (bd1 (fX10_ahead N p2) fun r3 => (if p2 ≤ (2 : Int32) then (some ((((r1 + r3) + (0 : Int32)) + p3) - (1 : Int32))) else (bd1 (fX10_isLeap N p1) fun r6 => (if r6 = (0 : Int32) then (some ((((r1 + r3) + (0 : Int32)) + p3) - (1 : Int32))) else (some ((((r1 + r3) + (1 : Int32)) + p3) - (1 : Int32))))))))
set_option maxHeartbeats 4000000 in
set_option maxRecDepth 100000 in
theorem kX10_dayOf (l : Launch) (N : Nat) (p1 : Int32) (p2 : Int32) (p3 : Int32) (r : Int32) (hf : fX10_dayOf N p1 p2 p3 = some r) : SI l yX10_dayOf (kws yX10_dayOf cX10_dayOf 3 (some .int)) (kR 1 21) [.int p1, .int p2, .int p3] r := by
  refine SI.of (cc := cX10_dayOf) (maxL := 3) (by decide) (Nat.le_of_ble_eq_true rfl) (fun p e s m args below meth c Q ls KC hl hEnd => ?_)
  obtain ⟨hx, hb, hml, hown, hts⟩ := KC
  have hown : s.vm.findClass "DateSpansModel" = some m.cls := hown
  have hl : lv_has ls 3 [(0, .int p1), (1, .int p2), (2, .int p3)] := hl
  have h := hf
  unfold fX10_dayOf at h
  refine lv_iload_n hx hb dX10_dayOf_0 rfl (lv_at hl 0 rfl) ?_
  obtain ⟨r1, hc2, h⟩ := bd1_at h
  refine kjSI (kS0 (own := "DateSpansModel") (As := [.int p1]) (rest := []) ⟨hx, hb, hml, hown, hts⟩ (kX10_yearBegins l N p1 r1 hc2) (kgS (kq q_1130 rfl) (kq q_1131 rfl) (kq q_66 rfl) (kq q_1132 rfl)) yd_X10_yearBegins ⟨Nat.le_of_ble_eq_true rfl, Nat.le_of_ble_eq_true rfl⟩ rfl rfl hl.1 rfl (lv_room (Nat.le_of_ble_eq_true rfl)) dX10_dayOf_1) ?_
  refine lv_iload_n hx hb dX10_dayOf_4 rfl (lv_at hl 1 rfl) ?_
  obtain ⟨r3, hc4, h⟩ := bd1_at h
  refine kjSI (kS0 (own := "DateSpansModel") (As := [.int p2]) (rest := [.int r1]) ⟨hx, hb, hml, hown, hts⟩ (kX10_ahead l N p2 r3 hc4) (kgS (kq q_1133 rfl) (kq q_1134 rfl) (kq q_66 rfl) (kq q_1135 rfl)) yd_X10_ahead ⟨Nat.le_of_ble_eq_true rfl, Nat.le_of_ble_eq_true rfl⟩ rfl rfl hl.1 rfl (lv_room (Nat.le_of_ble_eq_true rfl)) dX10_dayOf_5) ?_
  refine lv_iadd hx hb dX10_dayOf_8 ?_
  refine lv_iload_n hx hb dX10_dayOf_9 rfl (lv_at hl 1 rfl) ?_
  refine lv_iconst (v := (2 : Int32)) hx hb dX10_dayOf_10 (by decide) ?_
  refine lv_icmp_le (tgt := 25) hx hb dX10_dayOf_11 (by decide) (fun c5 => ?_) (fun c5 => ?_)
  · have h := ite_t c5 h
    refine lv_iconst (v := (0 : Int32)) hx hb dX10_dayOf_25 (by decide) ?_
    refine lv_iadd hx hb dX10_dayOf_26 ?_
    refine lv_iload_n hx hb dX10_dayOf_27 rfl (lv_at hl 2 rfl) ?_
    refine lv_iadd hx hb dX10_dayOf_28 ?_
    refine lv_iconst (v := (1 : Int32)) hx hb dX10_dayOf_29 (by decide) ?_
    refine lv_isub hx hb dX10_dayOf_30 ?_
    obtain rfl := pj1 h
    exact hEnd _ _ dX10_dayOf_31 rfl
  have h := ite_f c5 h
  refine lv_iload_n hx hb dX10_dayOf_14 rfl (lv_at hl 0 rfl) ?_
  obtain ⟨r6, hc7, h⟩ := bd1_at h
  refine kjSI (kS0 (own := "DateSpansModel") (As := [.int p1]) (rest := [.int (r1 + r3)]) ⟨hx, hb, hml, hown, hts⟩ (kX10_isLeap l N p1 r6 hc7) (kgS (kq q_1120 rfl) (kq q_1121 rfl) (kq q_66 rfl) (kq q_1122 rfl)) yd_X10_isLeap ⟨Nat.le_of_ble_eq_true rfl, Nat.le_of_ble_eq_true rfl⟩ rfl rfl hl.1 rfl (lv_room (Nat.le_of_ble_eq_true rfl)) dX10_dayOf_15) ?_
  refine lv_if_eq (tgt := 25) hx hb dX10_dayOf_18 (by decide) (fun c8 => ?_) (fun c8 => ?_)
  · have h := ite_t c8 h
    refine lv_iconst (v := (0 : Int32)) hx hb dX10_dayOf_25 (by decide) ?_
    refine lv_iadd hx hb dX10_dayOf_26 ?_
    refine lv_iload_n hx hb dX10_dayOf_27 rfl (lv_at hl 2 rfl) ?_
    refine lv_iadd hx hb dX10_dayOf_28 ?_
    refine lv_iconst (v := (1 : Int32)) hx hb dX10_dayOf_29 (by decide) ?_
    refine lv_isub hx hb dX10_dayOf_30 ?_
    obtain rfl := pj1 h
    exact hEnd _ _ dX10_dayOf_31 rfl
  have h := ite_f c8 h
  refine lv_iconst (v := (1 : Int32)) hx hb dX10_dayOf_21 (by decide) ?_
  refine lv_goto (tgt := 26) hx hb dX10_dayOf_22 (by decide) ?_
  refine lv_iadd hx hb dX10_dayOf_26 ?_
  refine lv_iload_n hx hb dX10_dayOf_27 rfl (lv_at hl 2 rfl) ?_
  refine lv_iadd hx hb dX10_dayOf_28 ?_
  refine lv_iconst (v := (1 : Int32)) hx hb dX10_dayOf_29 (by decide) ?_
  refine lv_isub hx hb dX10_dayOf_30 ?_
  obtain rfl := pj1 h
  exact hEnd _ _ dX10_dayOf_31 rfl
noncomputable def fX10_stands (N : Nat) (p1 : Int32) (p2 : Int32) (i_this : Nat → Int32) (j_this : Nat → Int64) : Option ((Nat → Int32)) := (some (upd (upd i_this 13 p1) 14 p2))
set_option maxHeartbeats 4000000 in
set_option maxRecDepth 100000 in
theorem kX10_stands (l : Launch) (dC : Nat → ClassId) (dI : Nat → Nat → Nat) (cI cJ cB : ClassId) (h_this h_this_dayAt h_this_secondAt h_this_spans h_this_kept h_this_text h_this_row h_this_read h_this_many h_this_first h_this_lengths h_this_page : Nat) (N : Nat) (p1 : Int32) (p2 : Int32) (i_this : Nat → Int32) (j_this : Nat → Int64) (o_i_this : Nat → Int32) (hf : fX10_stands N p1 p2 i_this j_this = some o_i_this) : MV l yX10_stands (kws yX10_stands cX10_stands 3 (none)) (kR 0 0) (dC, dI) (kT cI cJ cB) [.ref h_this, .int p1, .int p2] [cl_X10 h_this h_this_dayAt h_this_secondAt h_this_spans h_this_kept h_this_text h_this_row h_this_read h_this_many h_this_first h_this_lengths h_this_page i_this j_this] [cl_X10 h_this h_this_dayAt h_this_secondAt h_this_spans h_this_kept h_this_text h_this_row h_this_read h_this_many h_this_first h_this_lengths h_this_page o_i_this j_this] := by
  refine MV.of (cc := cX10_stands) (maxL := 3) (by decide) (Nat.le_of_ble_eq_true rfl) (fun p e s m args below meth c A Q ls KC hN hK hP hD hA hl hEnd => ?_)
  obtain ⟨hx, hb, hml, hown, hts⟩ := KC
  have hown : s.vm.findClass "DateSpansModel" = some m.cls := hown
  have hl : lv_has ls 3 [(0, .ref h_this), (1, .int p1), (2, .int p2)] := hl
  have hS : va_S A s.heap s.heap [] := va_S.rf
  have h := hf
  unfold fX10_stands at h
  refine lv_aload_n hx hb dX10_stands_0 rfl (lv_at hl 0 rfl) ?_
  refine lv_iload_n hx hb dX10_stands_1 rfl (lv_at hl 1 rfl) ?_
  refine va_put (D := (dC, dI)) (ci := 9) (v := .int p1) (ty := .int) (C := RX10) (T := TX10) (N := 29) hx hb hts inX10 tyX10 tyX10_ok nmX10 hown hK hP hD hS 0 rfl rfl 13 (by decide) (hts _ (kq q_999 rfl)) (fun _ h9 => h9) rfl (by decide +kernel) rfl rfl (Nat.le_of_ble_eq_true rfl) dX10_stands_2 (fun H locs hP hD hS => ?_)
  have hP : va_P (dC, dI) vwCl [(h_this, .inr (9, [.ref h_this_dayAt, .ref h_this_secondAt, .ref h_this_spans, .ref h_this_kept, .int (i_this 4), .ref h_this_text, .int (i_this 6), .ref h_this_row, .int (i_this 8), .int (i_this 9), .int (i_this 10), .int (i_this 11), .int (i_this 12), .int p1, .int (i_this 14), .int (i_this 15), .int (i_this 16), .int (i_this 17), .int (i_this 18), .ref h_this_read, .long (j_this 20), .ref h_this_many, .ref h_this_first, .ref h_this_lengths, .int (i_this 24), .long (j_this 25), .long (j_this 26), .ref h_this_page, .int (i_this 28)]))] H := hP
  have hD : va_D A [(h_this, .inr (9, [.ref h_this_dayAt, .ref h_this_secondAt, .ref h_this_spans, .ref h_this_kept, .int (i_this 4), .ref h_this_text, .int (i_this 6), .ref h_this_row, .int (i_this 8), .int (i_this 9), .int (i_this 10), .int (i_this 11), .int (i_this 12), .int p1, .int (i_this 14), .int (i_this 15), .int (i_this 16), .int (i_this 17), .int (i_this 18), .ref h_this_read, .long (j_this 20), .ref h_this_many, .ref h_this_first, .ref h_this_lengths, .int (i_this 24), .long (j_this 25), .long (j_this 26), .ref h_this_page, .int (i_this 28)]))] := hD
  refine lv_aload_n hx hb dX10_stands_5 rfl (lv_at hl 0 rfl) ?_
  refine lv_iload_n hx hb dX10_stands_6 rfl (lv_at hl 2 rfl) ?_
  refine va_put (D := (dC, dI)) (ci := 9) (v := .int p2) (ty := .int) (C := RX10) (T := TX10) (N := 29) hx hb hts inX10 tyX10 tyX10_ok nmX10 hown hK hP hD hS 0 rfl rfl 14 (by decide) (hts _ (kq q_1000 rfl)) (fun _ h9 => h9) rfl (by decide +kernel) rfl rfl (Nat.le_of_ble_eq_true rfl) dX10_stands_7 (fun H locs hP hD hS => ?_)
  have hP : va_P (dC, dI) vwCl [(h_this, .inr (9, [.ref h_this_dayAt, .ref h_this_secondAt, .ref h_this_spans, .ref h_this_kept, .int (i_this 4), .ref h_this_text, .int (i_this 6), .ref h_this_row, .int (i_this 8), .int (i_this 9), .int (i_this 10), .int (i_this 11), .int (i_this 12), .int p1, .int p2, .int (i_this 15), .int (i_this 16), .int (i_this 17), .int (i_this 18), .ref h_this_read, .long (j_this 20), .ref h_this_many, .ref h_this_first, .ref h_this_lengths, .int (i_this 24), .long (j_this 25), .long (j_this 26), .ref h_this_page, .int (i_this 28)]))] H := hP
  have hD : va_D A [(h_this, .inr (9, [.ref h_this_dayAt, .ref h_this_secondAt, .ref h_this_spans, .ref h_this_kept, .int (i_this 4), .ref h_this_text, .int (i_this 6), .ref h_this_row, .int (i_this 8), .int (i_this 9), .int (i_this 10), .int (i_this 11), .int (i_this 12), .int p1, .int p2, .int (i_this 15), .int (i_this 16), .int (i_this 17), .int (i_this 18), .ref h_this_read, .long (j_this 20), .ref h_this_many, .ref h_this_first, .ref h_this_lengths, .int (i_this 24), .long (j_this 25), .long (j_this 26), .ref h_this_page, .int (i_this 28)]))] := hD
  have hP : va_P (dC, dI) vwCl [cl_X10 h_this h_this_dayAt h_this_secondAt h_this_spans h_this_kept h_this_text h_this_row h_this_read h_this_many h_this_first h_this_lengths h_this_page (upd (upd i_this 13 p1) 14 p2) j_this] H := hP
  have hD : va_D A [cl_X10 h_this h_this_dayAt h_this_secondAt h_this_spans h_this_kept h_this_text h_this_row h_this_read h_this_many h_this_first h_this_lengths h_this_page (upd (upd i_this 13 p1) 14 p2) j_this] := hD
  obtain rfl := pj1 h
  exact hEnd _ _ _ _ hP hS dX10_stands_10
noncomputable def fX10_comesTo (N : Nat) (p1 : Int32) (i_this : Nat → Int32) (j_this : Nat → Int64) (f_this_dayAt : Nat → Int32) (f_this_secondAt : Nat → Int32) : Option ((Nat → Int32) × (Nat → Int32)) := (gi p1 8 (gi p1 8 (some ((upd f_this_dayAt p1.toNatClampNeg (i_this 13)), (upd f_this_secondAt p1.toNatClampNeg (i_this 14))))))
set_option maxHeartbeats 4000000 in
set_option maxRecDepth 100000 in
theorem kX10_comesTo (l : Launch) (dC : Nat → ClassId) (dI : Nat → Nat → Nat) (cI cJ cB : ClassId) (h_this h_this_dayAt h_this_secondAt h_this_spans h_this_kept h_this_text h_this_row h_this_read h_this_many h_this_first h_this_lengths h_this_page : Nat) (N : Nat) (p1 : Int32) (i_this : Nat → Int32) (j_this : Nat → Int64) (f_this_dayAt : Nat → Int32) (f_this_secondAt : Nat → Int32) (o_f_this_dayAt : Nat → Int32) (o_f_this_secondAt : Nat → Int32) (hf : fX10_comesTo N p1 i_this j_this f_this_dayAt f_this_secondAt = some (o_f_this_dayAt, o_f_this_secondAt)) : MV l yX10_comesTo (kws yX10_comesTo cX10_comesTo 2 (none)) (kR 0 0) (dC, dI) (kT cI cJ cB) [.ref h_this, .int p1] [cl_X10 h_this h_this_dayAt h_this_secondAt h_this_spans h_this_kept h_this_text h_this_row h_this_read h_this_many h_this_first h_this_lengths h_this_page i_this j_this, (h_this_dayAt, .inl (cI, 8, .inl f_this_dayAt)), (h_this_secondAt, .inl (cI, 8, .inl f_this_secondAt))] [cl_X10 h_this h_this_dayAt h_this_secondAt h_this_spans h_this_kept h_this_text h_this_row h_this_read h_this_many h_this_first h_this_lengths h_this_page i_this j_this, (h_this_dayAt, .inl (cI, 8, .inl o_f_this_dayAt)), (h_this_secondAt, .inl (cI, 8, .inl o_f_this_secondAt))] := by
  refine MV.of (cc := cX10_comesTo) (maxL := 2) (by decide) (Nat.le_of_ble_eq_true rfl) (fun p e s m args below meth c A Q ls KC hN hK hP hD hA hl hEnd => ?_)
  obtain ⟨hx, hb, hml, hown, hts⟩ := KC
  have hown : s.vm.findClass "DateSpansModel" = some m.cls := hown
  have hl : lv_has ls 2 [(0, .ref h_this), (1, .int p1)] := hl
  have hS : va_S A s.heap s.heap [] := va_S.rf
  have h := hf
  unfold fX10_comesTo at h
  refine lv_aload_n hx hb dX10_comesTo_0 rfl (lv_at hl 0 rfl) ?_
  refine va_get (D := (dC, dI)) (ci := 9) (v := .ref h_this_dayAt) (C := RX10) (T := TX10) (N := 29) hx hb hts inX10 hown hK hP 0 rfl rfl 0 (by decide) (hts _ (kq q_986 rfl)) (fun _ h9 => h9) rfl dX10_comesTo_1 ?_
  refine lv_iload_n hx hb dX10_comesTo_4 rfl (lv_at hl 1 rfl) ?_
  refine lv_aload_n hx hb dX10_comesTo_5 rfl (lv_at hl 0 rfl) ?_
  refine va_get (D := (dC, dI)) (ci := 9) (v := .int (i_this 13)) (C := RX10) (T := TX10) (N := 29) hx hb hts inX10 hown hK hP 0 rfl rfl 13 (by decide) (hts _ (kq q_999 rfl)) (fun _ h9 => h9) rfl dX10_comesTo_6 ?_
  obtain ⟨hi1, h⟩ := gi_at h
  refine va_iast hx hb hK hP hD hS 1 0 rfl rfl hi1 dX10_comesTo_9 (fun H locs hP hD hS => ?_)
  have hP : va_P (dC, dI) vwCl [cl_X10 h_this h_this_dayAt h_this_secondAt h_this_spans h_this_kept h_this_text h_this_row h_this_read h_this_many h_this_first h_this_lengths h_this_page i_this j_this, (h_this_dayAt, .inl (cI, 8, .inl (upd f_this_dayAt p1.toNatClampNeg (i_this 13)))), (h_this_secondAt, .inl (cI, 8, .inl f_this_secondAt))] H := hP
  have hD : va_D A [cl_X10 h_this h_this_dayAt h_this_secondAt h_this_spans h_this_kept h_this_text h_this_row h_this_read h_this_many h_this_first h_this_lengths h_this_page i_this j_this, (h_this_dayAt, .inl (cI, 8, .inl (upd f_this_dayAt p1.toNatClampNeg (i_this 13)))), (h_this_secondAt, .inl (cI, 8, .inl f_this_secondAt))] := hD
  refine lv_aload_n hx hb dX10_comesTo_10 rfl (lv_at hl 0 rfl) ?_
  refine va_get (D := (dC, dI)) (ci := 9) (v := .ref h_this_secondAt) (C := RX10) (T := TX10) (N := 29) hx hb hts inX10 hown hK hP 0 rfl rfl 1 (by decide) (hts _ (kq q_987 rfl)) (fun _ h9 => h9) rfl dX10_comesTo_11 ?_
  refine lv_iload_n hx hb dX10_comesTo_14 rfl (lv_at hl 1 rfl) ?_
  refine lv_aload_n hx hb dX10_comesTo_15 rfl (lv_at hl 0 rfl) ?_
  refine va_get (D := (dC, dI)) (ci := 9) (v := .int (i_this 14)) (C := RX10) (T := TX10) (N := 29) hx hb hts inX10 hown hK hP 0 rfl rfl 14 (by decide) (hts _ (kq q_1000 rfl)) (fun _ h9 => h9) rfl dX10_comesTo_16 ?_
  obtain ⟨hi2, h⟩ := gi_at h
  refine va_iast hx hb hK hP hD hS 2 0 rfl rfl hi2 dX10_comesTo_19 (fun H locs hP hD hS => ?_)
  have hP : va_P (dC, dI) vwCl [cl_X10 h_this h_this_dayAt h_this_secondAt h_this_spans h_this_kept h_this_text h_this_row h_this_read h_this_many h_this_first h_this_lengths h_this_page i_this j_this, (h_this_dayAt, .inl (cI, 8, .inl (upd f_this_dayAt p1.toNatClampNeg (i_this 13)))), (h_this_secondAt, .inl (cI, 8, .inl (upd f_this_secondAt p1.toNatClampNeg (i_this 14))))] H := hP
  have hD : va_D A [cl_X10 h_this h_this_dayAt h_this_secondAt h_this_spans h_this_kept h_this_text h_this_row h_this_read h_this_many h_this_first h_this_lengths h_this_page i_this j_this, (h_this_dayAt, .inl (cI, 8, .inl (upd f_this_dayAt p1.toNatClampNeg (i_this 13)))), (h_this_secondAt, .inl (cI, 8, .inl (upd f_this_secondAt p1.toNatClampNeg (i_this 14))))] := hD
  obtain ⟨rfl, rfl⟩ := pj2 h
  exact hEnd _ _ _ _ hP hS dX10_comesTo_20
noncomputable def fX10_moment_j204 (N : Nat) (j_this : Nat → Int64) (f_this_text : Nat → Int32) (v1 : Int32) (v2 : Int32) (v3 : Int32) (v4 : Int32) (v5 : Int32) (i_this : Nat → Int32) (f_this_dayAt : Nat → Int32) (f_this_secondAt : Nat → Int32) : Option (Int32 × (Nat → Int32) × (Nat → Int32) × (Nat → Int32)) := (if (i_this 18) = (-1 : Int32) then (bd1 (fX10_isSlot N v1) fun r2 => (if r2 = (0 : Int32) then (some ((-1 : Int32), i_this, f_this_dayAt, f_this_secondAt)) else (bd1 (fX10_dayOf N v2 v3 v4) fun r5 => (bd1 (fX10_stands N r5 v5 i_this j_this) fun i_this_7 => (bd2 (fX10_comesTo N v1 i_this_7 j_this f_this_dayAt f_this_secondAt) fun f_this_dayAt_9 f_this_secondAt_10 => (some ((i_this_7 13), i_this_7, f_this_dayAt_9, f_this_secondAt_10))))))) else (some (((-21 : Int32) - (i_this 18)), i_this, f_this_dayAt, f_this_secondAt)))
noncomputable def fX10_moment_j177 (N : Nat) (j_this : Nat → Int64) (f_this_text : Nat → Int32) (v1 : Int32) (v2 : Int32) (v3 : Int32) (v4 : Int32) (v5 : Int32) (i_this : Nat → Int32) (f_this_dayAt : Nat → Int32) (f_this_secondAt : Nat → Int32) : Option (Int32 × (Nat → Int32) × (Nat → Int32) × (Nat → Int32)) := (if (i_this 18) = (-1 : Int32) then (if (i_this 16) ≤ (i_this 17) then (fX10_moment_j204 N j_this f_this_text v1 v2 v3 v4 v5 i_this f_this_dayAt f_this_secondAt) else (bd1 (fX10_fault N (i_this 17) i_this j_this) fun i_this_14 => (fX10_moment_j204 N j_this f_this_text v1 v2 v3 v4 v5 i_this_14 f_this_dayAt f_this_secondAt))) else (fX10_moment_j204 N j_this f_this_text v1 v2 v3 v4 v5 i_this f_this_dayAt f_this_secondAt))
noncomputable def fX10_moment_j90 (N : Nat) (j_this : Nat → Int64) (f_this_text : Nat → Int32) (v1 : Int32) (v2 : Int32) (v3 : Int32) (t0 : Int32) (t1 : Int32) (i_this : Nat → Int32) (f_this_dayAt : Nat → Int32) (f_this_secondAt : Nat → Int32) : Option (Int32 × (Nat → Int32) × (Nat → Int32) × (Nat → Int32)) := (bd2 (fX10_two N t1 t0 i_this j_this f_this_text) fun r16 i_this_17 => (if (i_this_17 18) = (-1 : Int32) then (bd1 (fX10_sees N i_this_17 j_this f_this_text) fun r20 => (if r20 = (84 : Int32) then (bd2 (fX10_two N (0 : Int32) (23 : Int32) (upd i_this_17 17 ((i_this_17 17) + (1 : Int32))) j_this f_this_text) fun r23 i_this_24 => (nm ((3600 : Int32) * r23) fun z26 => (bd1 (fX10_expect N (58 : Int32) i_this_24 j_this f_this_text) fun i_this_27 => (bd2 (fX10_two N (0 : Int32) (59 : Int32) i_this_27 j_this f_this_text) fun r29 i_this_30 => (nm (z26 + ((60 : Int32) * r29)) fun z32 => (bd1 (fX10_expect N (58 : Int32) i_this_30 j_this f_this_text) fun i_this_33 => (bd2 (fX10_two N (0 : Int32) (59 : Int32) i_this_33 j_this f_this_text) fun r35 i_this_36 => (nm (z32 + r35) fun z38 => (fX10_moment_j177 N j_this f_this_text v1 v2 v3 r16 z38 i_this_36 f_this_dayAt f_this_secondAt))))))))) else (fX10_moment_j177 N j_this f_this_text v1 v2 v3 r16 (0 : Int32) i_this_17 f_this_dayAt f_this_secondAt))) else (fX10_moment_j177 N j_this f_this_text v1 v2 v3 r16 (0 : Int32) i_this_17 f_this_dayAt f_this_secondAt)))
noncomputable def fX10_moment_l13 (N : Nat) (j_this : Nat → Int64) (f_this_text : Nat → Int32) (n : Nat) : Int32 → Int32 → Int32 → (Nat → Int32) → (Nat → Int32) → (Nat → Int32) → Option (Int32 × (Nat → Int32) × (Nat → Int32) × (Nat → Int32)) := Nat.rec (motive := fun _ => Int32 → Int32 → Int32 → (Nat → Int32) → (Nat → Int32) → (Nat → Int32) → Option (Int32 × (Nat → Int32) × (Nat → Int32) × (Nat → Int32))) (fun _ _ _ _ _ _ => none) (fun _ K_13 v1 v2 v3 i_this f_this_dayAt f_this_secondAt => (if (4 : Int32) ≤ v3 then (bd1 (fX10_expect N (45 : Int32) i_this j_this f_this_text) fun i_this_40 => (bd2 (fX10_two N (1 : Int32) (12 : Int32) i_this_40 j_this f_this_text) fun r42 i_this_43 => (bd1 (fX10_expect N (45 : Int32) i_this_43 j_this f_this_text) fun i_this_45 => (if (i_this_45 18) = (-1 : Int32) then (bd1 (fX10_monthDays N v2 r42) fun r48 => (fX10_moment_j90 N j_this f_this_text v1 v2 r42 r48 (1 : Int32) i_this_45 f_this_dayAt f_this_secondAt)) else (fX10_moment_j90 N j_this f_this_text v1 v2 r42 (28 : Int32) (1 : Int32) i_this_45 f_this_dayAt f_this_secondAt))))) else (if v3 = (3 : Int32) then (if v2 = (0 : Int32) then (bd2 (fX10_digit N (1 : Int32) (9 : Int32) i_this j_this f_this_text) fun r62 i_this_63 => (nm (((10 : Int32) * v2) + r62) fun z65 => (nm (v3 + (1 : Int32)) fun z66 => (K_13 v1 z65 z66 i_this_63 f_this_dayAt f_this_secondAt)))) else (bd2 (fX10_digit N (0 : Int32) (9 : Int32) i_this j_this f_this_text) fun r57 i_this_58 => (nm (((10 : Int32) * v2) + r57) fun z60 => (nm (v3 + (1 : Int32)) fun z61 => (K_13 v1 z60 z61 i_this_58 f_this_dayAt f_this_secondAt))))) else (bd2 (fX10_digit N (0 : Int32) (9 : Int32) i_this j_this f_this_text) fun r51 i_this_52 => (nm (((10 : Int32) * v2) + r51) fun z54 => (nm (v3 + (1 : Int32)) fun z55 => (K_13 v1 z54 z55 i_this_52 f_this_dayAt f_this_secondAt))))))) n
theorem fX10_moment_l13_s (N : Nat) (j_this : Nat → Int64) (f_this_text : Nat → Int32) (n : Nat) (v1 : Int32) (v2 : Int32) (v3 : Int32) (i_this : Nat → Int32) (f_this_dayAt : Nat → Int32) (f_this_secondAt : Nat → Int32) : fX10_moment_l13 N j_this f_this_text (n + 1) v1 v2 v3 i_this f_this_dayAt f_this_secondAt = (if (4 : Int32) ≤ v3 then (bd1 (fX10_expect N (45 : Int32) i_this j_this f_this_text) fun i_this_40 => (bd2 (fX10_two N (1 : Int32) (12 : Int32) i_this_40 j_this f_this_text) fun r42 i_this_43 => (bd1 (fX10_expect N (45 : Int32) i_this_43 j_this f_this_text) fun i_this_45 => (if (i_this_45 18) = (-1 : Int32) then (bd1 (fX10_monthDays N v2 r42) fun r48 => (fX10_moment_j90 N j_this f_this_text v1 v2 r42 r48 (1 : Int32) i_this_45 f_this_dayAt f_this_secondAt)) else (fX10_moment_j90 N j_this f_this_text v1 v2 r42 (28 : Int32) (1 : Int32) i_this_45 f_this_dayAt f_this_secondAt))))) else (if v3 = (3 : Int32) then (if v2 = (0 : Int32) then (bd2 (fX10_digit N (1 : Int32) (9 : Int32) i_this j_this f_this_text) fun r62 i_this_63 => (nm (((10 : Int32) * v2) + r62) fun z65 => (nm (v3 + (1 : Int32)) fun z66 => ((fX10_moment_l13 N j_this f_this_text n) v1 z65 z66 i_this_63 f_this_dayAt f_this_secondAt)))) else (bd2 (fX10_digit N (0 : Int32) (9 : Int32) i_this j_this f_this_text) fun r57 i_this_58 => (nm (((10 : Int32) * v2) + r57) fun z60 => (nm (v3 + (1 : Int32)) fun z61 => ((fX10_moment_l13 N j_this f_this_text n) v1 z60 z61 i_this_58 f_this_dayAt f_this_secondAt))))) else (bd2 (fX10_digit N (0 : Int32) (9 : Int32) i_this j_this f_this_text) fun r51 i_this_52 => (nm (((10 : Int32) * v2) + r51) fun z54 => (nm (v3 + (1 : Int32)) fun z55 => ((fX10_moment_l13 N j_this f_this_text n) v1 z54 z55 i_this_52 f_this_dayAt f_this_secondAt)))))) := rfl
theorem fX10_moment_l13_0 (N : Nat) (j_this : Nat → Int64) (f_this_text : Nat → Int32) (v1 : Int32) (v2 : Int32) (v3 : Int32) (i_this : Nat → Int32) (f_this_dayAt : Nat → Int32) (f_this_secondAt : Nat → Int32) : fX10_moment_l13 N j_this f_this_text 0 v1 v2 v3 i_this f_this_dayAt f_this_secondAt = none := rfl
noncomputable def fX10_moment (N : Nat) (p1 : Int32) (i_this : Nat → Int32) (j_this : Nat → Int64) (f_this_dayAt : Nat → Int32) (f_this_secondAt : Nat → Int32) (f_this_text : Nat → Int32) : Option (Int32 × (Nat → Int32) × (Nat → Int32) × (Nat → Int32)) := (bd1 (fX10_begin N (upd i_this 9 (0 : Int32)) j_this) fun i_this_67 => (fX10_moment_l13 N j_this f_this_text N p1 (0 : Int32) (0 : Int32) i_this_67 f_this_dayAt f_this_secondAt))
set_option maxHeartbeats 4000000 in
set_option maxRecDepth 100000 in
theorem kX10_moment (l : Launch) (dC : Nat → ClassId) (dI : Nat → Nat → Nat) (cI cJ cB : ClassId) (h_this h_this_dayAt h_this_secondAt h_this_spans h_this_kept h_this_text h_this_row h_this_read h_this_many h_this_first h_this_lengths h_this_page : Nat) (N : Nat) (p1 : Int32) (i_this : Nat → Int32) (j_this : Nat → Int64) (f_this_dayAt : Nat → Int32) (f_this_secondAt : Nat → Int32) (f_this_text : Nat → Int32) (r : Int32) (o_i_this : Nat → Int32) (o_f_this_dayAt : Nat → Int32) (o_f_this_secondAt : Nat → Int32) (hf : fX10_moment N p1 i_this j_this f_this_dayAt f_this_secondAt f_this_text = some (r, o_i_this, o_f_this_dayAt, o_f_this_secondAt)) : MI l yX10_moment (kws yX10_moment cX10_moment 6 (some .int)) (kR 3 71) (dC, dI) (kT cI cJ cB) [.ref h_this, .int p1] [cl_X10 h_this h_this_dayAt h_this_secondAt h_this_spans h_this_kept h_this_text h_this_row h_this_read h_this_many h_this_first h_this_lengths h_this_page i_this j_this, (h_this_dayAt, .inl (cI, 8, .inl f_this_dayAt)), (h_this_secondAt, .inl (cI, 8, .inl f_this_secondAt)), (h_this_text, .inl (cB, 100, .inl f_this_text))] [cl_X10 h_this h_this_dayAt h_this_secondAt h_this_spans h_this_kept h_this_text h_this_row h_this_read h_this_many h_this_first h_this_lengths h_this_page o_i_this j_this, (h_this_dayAt, .inl (cI, 8, .inl o_f_this_dayAt)), (h_this_secondAt, .inl (cI, 8, .inl o_f_this_secondAt)), (h_this_text, .inl (cB, 100, .inl f_this_text))] r := by
  refine MI.of (cc := cX10_moment) (maxL := 6) (by decide) (Nat.le_of_ble_eq_true rfl) (fun p e s m args below meth c A Q ls KC hN hK hP hD hA hl hEnd => ?_)
  obtain ⟨hx, hb, hml, hown, hts⟩ := KC
  have hown : s.vm.findClass "DateSpansModel" = some m.cls := hown
  have hl : lv_has ls 6 [(0, .ref h_this), (1, .int p1)] := hl
  have hS : va_S A s.heap s.heap [] := va_S.rf
  have JN_204 : ∀ (v1 : Int32) (v2 : Int32) (v3 : Int32) (v4 : Int32) (v5 : Int32) (i_this : Nat → Int32) (f_this_dayAt : Nat → Int32) (f_this_secondAt : Nat → Int32) (ls : Array Slot) (H : Heap) (locs : List Loc), (fX10_moment_j204 N j_this f_this_text) v1 v2 v3 v4 v5 i_this f_this_dayAt f_this_secondAt = some (r, o_i_this, o_f_this_dayAt, o_f_this_secondAt) → lv_has ls 6 [(0, .ref h_this), (1, .int v1), (2, .int v2), (3, .int v3), (4, .int v4), (5, .int v5)] → va_P (dC, dI) vwCl [cl_X10 h_this h_this_dayAt h_this_secondAt h_this_spans h_this_kept h_this_text h_this_row h_this_read h_this_many h_this_first h_this_lengths h_this_page i_this j_this, (h_this_dayAt, .inl (cI, 8, .inl f_this_dayAt)), (h_this_secondAt, .inl (cI, 8, .inl f_this_secondAt)), (h_this_text, .inl (cB, 100, .inl f_this_text))] H → va_D A [cl_X10 h_this h_this_dayAt h_this_secondAt h_this_spans h_this_kept h_this_text h_this_row h_this_read h_this_many h_this_first h_this_lengths h_this_page i_this j_this, (h_this_dayAt, .inl (cI, 8, .inl f_this_dayAt)), (h_this_secondAt, .inl (cI, 8, .inl f_this_secondAt)), (h_this_text, .inl (cB, 100, .inl f_this_text))] → va_S A s.heap H locs → W p l e (kR 3 71) s m args below meth c H locs 0 0 Q (F0 m 204 ls []) := by
    intro v1 v2 v3 v4 v5 i_this f_this_dayAt f_this_secondAt ls H locs h hl hP hD hS
    unfold fX10_moment_j204 at h
    refine lv_aload_n hx hb dX10_moment_204 rfl (lv_at hl 0 rfl) ?_
    refine va_get (D := (dC, dI)) (ci := 9) (v := .int (i_this 18)) (C := RX10) (T := TX10) (N := 29) hx hb hts inX10 hown hK hP 0 rfl rfl 18 (by decide) (hts _ (kq q_1004 rfl)) (fun _ h9 => h9) rfl dX10_moment_205 ?_
    refine lv_iconst (v := (-1 : Int32)) hx hb dX10_moment_208 (by decide) ?_
    refine lv_icmp_eq (tgt := 220) hx hb dX10_moment_209 (by decide) (fun c1 => ?_) (fun c1 => ?_)
    · have h := ite_t c1 h
      refine lv_iload_n hx hb dX10_moment_220 rfl (lv_at hl 1 rfl) ?_
      obtain ⟨r2, hc3, h⟩ := bd1_at h
      refine kjSI (kS0 (own := "DateSpansModel") (As := [.int v1]) (rest := []) ⟨hx, hb, hml, hown, hts⟩ (kX10_isSlot l N v1 r2 hc3) (kgS (kq q_1123 rfl) (kq q_1124 rfl) (kq q_66 rfl) (kq q_1125 rfl)) yd_X10_isSlot ⟨Nat.le_of_ble_eq_true rfl, Nat.le_of_ble_eq_true rfl⟩ rfl rfl hl.1 rfl (lv_room (Nat.le_of_ble_eq_true rfl)) dX10_moment_221) ?_
      refine lv_if_ne (tgt := 229) hx hb dX10_moment_224 (by decide) (fun c4 => ?_) (fun c4 => ?_)
      · have h := ite_f c4 h
        refine lv_aload_n hx hb dX10_moment_229 rfl (lv_at hl 0 rfl) ?_
        refine lv_iload_n hx hb dX10_moment_230 rfl (lv_at hl 2 rfl) ?_
        refine lv_iload_n hx hb dX10_moment_231 rfl (lv_at hl 3 rfl) ?_
        refine lv_iload hx hb dX10_moment_232 (lv_at hl 4 rfl) ?_
        obtain ⟨r5, hc6, h⟩ := bd1_at h
        refine kjSI (kS0 (own := "DateSpansModel") (As := [.int v2, .int v3, .int v4]) (rest := [.ref h_this]) ⟨hx, hb, hml, hown, hts⟩ (kX10_dayOf l N v2 v3 v4 r5 hc6) (kgS (kq q_1127 rfl) (kq q_1128 rfl) (kq q_66 rfl) (kq q_1129 rfl)) yd_X10_dayOf ⟨Nat.le_of_ble_eq_true rfl, Nat.le_of_ble_eq_true rfl⟩ rfl rfl hl.1 rfl (lv_room (Nat.le_of_ble_eq_true rfl)) dX10_moment_234) ?_
        refine lv_iload hx hb dX10_moment_237 (lv_at hl 5 rfl) ?_
        obtain ⟨i_this_7, hc8, h⟩ := bd1_at h
        refine kjV (kV (own := "DateSpansModel") (C := "DateSpansModel") (b := h_this) (As := [.int r5, .int v5]) (rest := []) ⟨hx, hb, hml, hown, hts⟩ (kX10_stands l dC dI cI cJ cB h_this h_this_dayAt h_this_secondAt h_this_spans h_this_kept h_this_text h_this_row h_this_read h_this_many h_this_first h_this_lengths h_this_page N r5 v5 i_this j_this i_this_7 hc8 _) (kgV (kq q_1136 rfl) (kq q_1138 rfl) (kq q_24 rfl) (kq q_66 rfl) (kq q_1139 rfl)) yd_X10_stands ⟨Nat.le_of_ble_eq_true rfl, Nat.le_of_ble_eq_true rfl⟩ hN hK hP hD [0] rfl rfl (ci := 9) rfl rfl rfl rfl rfl hl.1 rfl (lv_room (Nat.le_of_ble_eq_true rfl)) dX10_moment_239) hP hD hS hA [0] rfl rfl (fun H locs hP hD hS => ?_)
        have hP : va_P (dC, dI) vwCl [cl_X10 h_this h_this_dayAt h_this_secondAt h_this_spans h_this_kept h_this_text h_this_row h_this_read h_this_many h_this_first h_this_lengths h_this_page i_this_7 j_this, (h_this_dayAt, .inl (cI, 8, .inl f_this_dayAt)), (h_this_secondAt, .inl (cI, 8, .inl f_this_secondAt)), (h_this_text, .inl (cB, 100, .inl f_this_text))] H := hP
        have hD : va_D A [cl_X10 h_this h_this_dayAt h_this_secondAt h_this_spans h_this_kept h_this_text h_this_row h_this_read h_this_many h_this_first h_this_lengths h_this_page i_this_7 j_this, (h_this_dayAt, .inl (cI, 8, .inl f_this_dayAt)), (h_this_secondAt, .inl (cI, 8, .inl f_this_secondAt)), (h_this_text, .inl (cB, 100, .inl f_this_text))] := hD
        refine lv_aload_n hx hb dX10_moment_242 rfl (lv_at hl 0 rfl) ?_
        refine lv_iload_n hx hb dX10_moment_243 rfl (lv_at hl 1 rfl) ?_
        obtain ⟨f_this_dayAt_9, f_this_secondAt_10, hc11, h⟩ := bd2_at h
        refine kjV (kV (own := "DateSpansModel") (C := "DateSpansModel") (b := h_this) (As := [.int v1]) (rest := []) ⟨hx, hb, hml, hown, hts⟩ (kX10_comesTo l dC dI cI cJ cB h_this h_this_dayAt h_this_secondAt h_this_spans h_this_kept h_this_text h_this_row h_this_read h_this_many h_this_first h_this_lengths h_this_page N v1 i_this_7 j_this f_this_dayAt f_this_secondAt f_this_dayAt_9 f_this_secondAt_10 hc11 _) (kgV (kq q_1140 rfl) (kq q_1142 rfl) (kq q_25 rfl) (kq q_66 rfl) (kq q_1143 rfl)) yd_X10_comesTo ⟨Nat.le_of_ble_eq_true rfl, Nat.le_of_ble_eq_true rfl⟩ hN hK hP hD [0, 1, 2] rfl rfl (ci := 9) rfl rfl rfl rfl rfl hl.1 rfl (lv_room (Nat.le_of_ble_eq_true rfl)) dX10_moment_244) hP hD hS hA [0, 1, 2] rfl rfl (fun H locs hP hD hS => ?_)
        have hP : va_P (dC, dI) vwCl [cl_X10 h_this h_this_dayAt h_this_secondAt h_this_spans h_this_kept h_this_text h_this_row h_this_read h_this_many h_this_first h_this_lengths h_this_page i_this_7 j_this, (h_this_dayAt, .inl (cI, 8, .inl f_this_dayAt_9)), (h_this_secondAt, .inl (cI, 8, .inl f_this_secondAt_10)), (h_this_text, .inl (cB, 100, .inl f_this_text))] H := hP
        have hD : va_D A [cl_X10 h_this h_this_dayAt h_this_secondAt h_this_spans h_this_kept h_this_text h_this_row h_this_read h_this_many h_this_first h_this_lengths h_this_page i_this_7 j_this, (h_this_dayAt, .inl (cI, 8, .inl f_this_dayAt_9)), (h_this_secondAt, .inl (cI, 8, .inl f_this_secondAt_10)), (h_this_text, .inl (cB, 100, .inl f_this_text))] := hD
        refine lv_aload_n hx hb dX10_moment_247 rfl (lv_at hl 0 rfl) ?_
        refine va_get (D := (dC, dI)) (ci := 9) (v := .int (i_this_7 13)) (C := RX10) (T := TX10) (N := 29) hx hb hts inX10 hown hK hP 0 rfl rfl 13 (by decide) (hts _ (kq q_999 rfl)) (fun _ h9 => h9) rfl dX10_moment_248 ?_
        obtain ⟨rfl, rfl, rfl, rfl⟩ := pj4 h
        exact hEnd _ _ _ _ hP hS dX10_moment_251 rfl
      have h := ite_t c4 h
      refine lv_iconst (v := (-1 : Int32)) hx hb dX10_moment_227 (by decide) ?_
      obtain ⟨rfl, rfl, rfl, rfl⟩ := pj4 h
      exact hEnd _ _ _ _ hP hS dX10_moment_228 rfl
    have h := ite_f c1 h
    refine lv_bipush (v := (-21 : Int32)) hx hb dX10_moment_212 (by decide) ?_
    refine lv_aload_n hx hb dX10_moment_214 rfl (lv_at hl 0 rfl) ?_
    refine va_get (D := (dC, dI)) (ci := 9) (v := .int (i_this 18)) (C := RX10) (T := TX10) (N := 29) hx hb hts inX10 hown hK hP 0 rfl rfl 18 (by decide) (hts _ (kq q_1004 rfl)) (fun _ h9 => h9) rfl dX10_moment_215 ?_
    refine lv_isub hx hb dX10_moment_218 ?_
    obtain ⟨rfl, rfl, rfl, rfl⟩ := pj4 h
    exact hEnd _ _ _ _ hP hS dX10_moment_219 rfl
  have JN_177 : ∀ (v1 : Int32) (v2 : Int32) (v3 : Int32) (v4 : Int32) (v5 : Int32) (i_this : Nat → Int32) (f_this_dayAt : Nat → Int32) (f_this_secondAt : Nat → Int32) (ls : Array Slot) (H : Heap) (locs : List Loc), (fX10_moment_j177 N j_this f_this_text) v1 v2 v3 v4 v5 i_this f_this_dayAt f_this_secondAt = some (r, o_i_this, o_f_this_dayAt, o_f_this_secondAt) → lv_has ls 6 [(0, .ref h_this), (1, .int v1), (2, .int v2), (3, .int v3), (4, .int v4), (5, .int v5)] → va_P (dC, dI) vwCl [cl_X10 h_this h_this_dayAt h_this_secondAt h_this_spans h_this_kept h_this_text h_this_row h_this_read h_this_many h_this_first h_this_lengths h_this_page i_this j_this, (h_this_dayAt, .inl (cI, 8, .inl f_this_dayAt)), (h_this_secondAt, .inl (cI, 8, .inl f_this_secondAt)), (h_this_text, .inl (cB, 100, .inl f_this_text))] H → va_D A [cl_X10 h_this h_this_dayAt h_this_secondAt h_this_spans h_this_kept h_this_text h_this_row h_this_read h_this_many h_this_first h_this_lengths h_this_page i_this j_this, (h_this_dayAt, .inl (cI, 8, .inl f_this_dayAt)), (h_this_secondAt, .inl (cI, 8, .inl f_this_secondAt)), (h_this_text, .inl (cB, 100, .inl f_this_text))] → va_S A s.heap H locs → W p l e (kR 3 71) s m args below meth c H locs 0 0 Q (F0 m 177 ls []) := by
    intro v1 v2 v3 v4 v5 i_this f_this_dayAt f_this_secondAt ls H locs h hl hP hD hS
    unfold fX10_moment_j177 at h
    refine lv_aload_n hx hb dX10_moment_177 rfl (lv_at hl 0 rfl) ?_
    refine va_get (D := (dC, dI)) (ci := 9) (v := .int (i_this 18)) (C := RX10) (T := TX10) (N := 29) hx hb hts inX10 hown hK hP 0 rfl rfl 18 (by decide) (hts _ (kq q_1004 rfl)) (fun _ h9 => h9) rfl dX10_moment_178 ?_
    refine lv_iconst (v := (-1 : Int32)) hx hb dX10_moment_181 (by decide) ?_
    refine lv_icmp_ne (tgt := 204) hx hb dX10_moment_182 (by decide) (fun c12 => ?_) (fun c12 => ?_)
    · have h := ite_f c12 h
      exact JN_204 _ _ _ _ _ _ _ _ _ _ _ h (lv_sub hl [0, 1, 2, 3, 4, 5] rfl) hP hD hS
    have h := ite_t c12 h
    refine lv_aload_n hx hb dX10_moment_185 rfl (lv_at hl 0 rfl) ?_
    refine va_get (D := (dC, dI)) (ci := 9) (v := .int (i_this 17)) (C := RX10) (T := TX10) (N := 29) hx hb hts inX10 hown hK hP 0 rfl rfl 17 (by decide) (hts _ (kq q_1003 rfl)) (fun _ h9 => h9) rfl dX10_moment_186 ?_
    refine lv_aload_n hx hb dX10_moment_189 rfl (lv_at hl 0 rfl) ?_
    refine va_get (D := (dC, dI)) (ci := 9) (v := .int (i_this 16)) (C := RX10) (T := TX10) (N := 29) hx hb hts inX10 hown hK hP 0 rfl rfl 16 (by decide) (hts _ (kq q_1002 rfl)) (fun _ h9 => h9) rfl dX10_moment_190 ?_
    refine lv_icmp_ge (tgt := 204) hx hb dX10_moment_193 (by decide) (fun c13 => ?_) (fun c13 => ?_)
    · have h := ite_t c13 h
      exact JN_204 _ _ _ _ _ _ _ _ _ _ _ h (lv_sub hl [0, 1, 2, 3, 4, 5] rfl) hP hD hS
    have h := ite_f c13 h
    refine lv_aload_n hx hb dX10_moment_196 rfl (lv_at hl 0 rfl) ?_
    refine lv_aload_n hx hb dX10_moment_197 rfl (lv_at hl 0 rfl) ?_
    refine va_get (D := (dC, dI)) (ci := 9) (v := .int (i_this 17)) (C := RX10) (T := TX10) (N := 29) hx hb hts inX10 hown hK hP 0 rfl rfl 17 (by decide) (hts _ (kq q_1003 rfl)) (fun _ h9 => h9) rfl dX10_moment_198 ?_
    obtain ⟨i_this_14, hc15, h⟩ := bd1_at h
    refine kjV (kV (own := "DateSpansModel") (C := "DateSpansModel") (b := h_this) (As := [.int (i_this 17)]) (rest := []) ⟨hx, hb, hml, hown, hts⟩ (kX10_fault l dC dI cI cJ cB h_this h_this_dayAt h_this_secondAt h_this_spans h_this_kept h_this_text h_this_row h_this_read h_this_many h_this_first h_this_lengths h_this_page N (i_this 17) i_this j_this i_this_14 hc15 _) (kgV (kq q_1105 rfl) (kq q_1107 rfl) (kq q_21 rfl) (kq q_66 rfl) (kq q_1108 rfl)) yd_X10_fault ⟨Nat.le_of_ble_eq_true rfl, Nat.le_of_ble_eq_true rfl⟩ hN hK hP hD [0] rfl rfl (ci := 9) rfl rfl rfl rfl rfl hl.1 rfl (lv_room (Nat.le_of_ble_eq_true rfl)) dX10_moment_201) hP hD hS hA [0] rfl rfl (fun H locs hP hD hS => ?_)
    have hP : va_P (dC, dI) vwCl [cl_X10 h_this h_this_dayAt h_this_secondAt h_this_spans h_this_kept h_this_text h_this_row h_this_read h_this_many h_this_first h_this_lengths h_this_page i_this_14 j_this, (h_this_dayAt, .inl (cI, 8, .inl f_this_dayAt)), (h_this_secondAt, .inl (cI, 8, .inl f_this_secondAt)), (h_this_text, .inl (cB, 100, .inl f_this_text))] H := hP
    have hD : va_D A [cl_X10 h_this h_this_dayAt h_this_secondAt h_this_spans h_this_kept h_this_text h_this_row h_this_read h_this_many h_this_first h_this_lengths h_this_page i_this_14 j_this, (h_this_dayAt, .inl (cI, 8, .inl f_this_dayAt)), (h_this_secondAt, .inl (cI, 8, .inl f_this_secondAt)), (h_this_text, .inl (cB, 100, .inl f_this_text))] := hD
    exact JN_204 _ _ _ _ _ _ _ _ _ _ _ h (lv_sub hl [0, 1, 2, 3, 4, 5] rfl) hP hD hS
  have JN_90 : ∀ (v1 : Int32) (v2 : Int32) (v3 : Int32) (t0 : Int32) (t1 : Int32) (i_this : Nat → Int32) (f_this_dayAt : Nat → Int32) (f_this_secondAt : Nat → Int32) (ls : Array Slot) (H : Heap) (locs : List Loc), (fX10_moment_j90 N j_this f_this_text) v1 v2 v3 t0 t1 i_this f_this_dayAt f_this_secondAt = some (r, o_i_this, o_f_this_dayAt, o_f_this_secondAt) → lv_has ls 6 [(0, .ref h_this), (1, .int v1), (2, .int v2), (3, .int v3)] → va_P (dC, dI) vwCl [cl_X10 h_this h_this_dayAt h_this_secondAt h_this_spans h_this_kept h_this_text h_this_row h_this_read h_this_many h_this_first h_this_lengths h_this_page i_this j_this, (h_this_dayAt, .inl (cI, 8, .inl f_this_dayAt)), (h_this_secondAt, .inl (cI, 8, .inl f_this_secondAt)), (h_this_text, .inl (cB, 100, .inl f_this_text))] H → va_D A [cl_X10 h_this h_this_dayAt h_this_secondAt h_this_spans h_this_kept h_this_text h_this_row h_this_read h_this_many h_this_first h_this_lengths h_this_page i_this j_this, (h_this_dayAt, .inl (cI, 8, .inl f_this_dayAt)), (h_this_secondAt, .inl (cI, 8, .inl f_this_secondAt)), (h_this_text, .inl (cB, 100, .inl f_this_text))] → va_S A s.heap H locs → W p l e (kR 3 71) s m args below meth c H locs 0 0 Q (F0 m 90 ls [.int t0, .int t1, .ref h_this]) := by
    intro v1 v2 v3 t0 t1 i_this f_this_dayAt f_this_secondAt ls H locs h hl hP hD hS
    unfold fX10_moment_j90 at h
    obtain ⟨r16, i_this_17, hc18, h⟩ := bd2_at h
    refine kjI (kV (own := "DateSpansModel") (C := "DateSpansModel") (b := h_this) (As := [.int t1, .int t0]) (rest := []) ⟨hx, hb, hml, hown, hts⟩ (kX10_two l dC dI cI cJ cB h_this h_this_dayAt h_this_secondAt h_this_spans h_this_kept h_this_text h_this_row h_this_read h_this_many h_this_first h_this_lengths h_this_page N t1 t0 i_this j_this f_this_text r16 i_this_17 hc18 _) (kgV (kq q_1113 rfl) (kq q_1115 rfl) (kq q_23 rfl) (kq q_66 rfl) (kq q_1116 rfl)) yd_X10_two ⟨Nat.le_of_ble_eq_true rfl, Nat.le_of_ble_eq_true rfl⟩ hN hK hP hD [0, 3] rfl rfl (ci := 9) rfl rfl rfl rfl rfl hl.1 rfl (lv_room (Nat.le_of_ble_eq_true rfl)) dX10_moment_90) hP hD hS hA [0, 3] rfl rfl (fun H locs hP hD hS => ?_)
    have hP : va_P (dC, dI) vwCl [cl_X10 h_this h_this_dayAt h_this_secondAt h_this_spans h_this_kept h_this_text h_this_row h_this_read h_this_many h_this_first h_this_lengths h_this_page i_this_17 j_this, (h_this_dayAt, .inl (cI, 8, .inl f_this_dayAt)), (h_this_secondAt, .inl (cI, 8, .inl f_this_secondAt)), (h_this_text, .inl (cB, 100, .inl f_this_text))] H := hP
    have hD : va_D A [cl_X10 h_this h_this_dayAt h_this_secondAt h_this_spans h_this_kept h_this_text h_this_row h_this_read h_this_many h_this_first h_this_lengths h_this_page i_this_17 j_this, (h_this_dayAt, .inl (cI, 8, .inl f_this_dayAt)), (h_this_secondAt, .inl (cI, 8, .inl f_this_secondAt)), (h_this_text, .inl (cB, 100, .inl f_this_text))] := hD
    refine lv_istore (lv' := [(4, .int r16), (0, .ref h_this), (1, .int v1), (2, .int v2), (3, .int v3)]) hx hb dX10_moment_93 hl (by decide) rfl (fun ls hl => ?_)
    refine lv_iconst (v := (0 : Int32)) hx hb dX10_moment_95 (by decide) ?_
    refine lv_istore (lv' := [(5, .int (0 : Int32)), (4, .int r16), (0, .ref h_this), (1, .int v1), (2, .int v2), (3, .int v3)]) hx hb dX10_moment_96 hl (by decide) rfl (fun ls hl => ?_)
    refine lv_aload_n hx hb dX10_moment_98 rfl (lv_at hl 2 rfl) ?_
    refine va_get (D := (dC, dI)) (ci := 9) (v := .int (i_this_17 18)) (C := RX10) (T := TX10) (N := 29) hx hb hts inX10 hown hK hP 0 rfl rfl 18 (by decide) (hts _ (kq q_1004 rfl)) (fun _ h9 => h9) rfl dX10_moment_99 ?_
    refine lv_iconst (v := (-1 : Int32)) hx hb dX10_moment_102 (by decide) ?_
    refine lv_icmp_ne (tgt := 177) hx hb dX10_moment_103 (by decide) (fun c19 => ?_) (fun c19 => ?_)
    · have h := ite_f c19 h
      exact JN_177 _ _ _ _ _ _ _ _ _ _ _ h (lv_sub hl [2, 3, 4, 5, 1, 0] rfl) hP hD hS
    have h := ite_t c19 h
    refine lv_aload_n hx hb dX10_moment_106 rfl (lv_at hl 2 rfl) ?_
    obtain ⟨r20, hc21, h⟩ := bd1_at h
    refine kjI (kV (own := "DateSpansModel") (C := "DateSpansModel") (b := h_this) (As := []) (rest := []) ⟨hx, hb, hml, hown, hts⟩ (kX10_sees l dC dI cI cJ cB h_this h_this_dayAt h_this_secondAt h_this_spans h_this_kept h_this_text h_this_row h_this_read h_this_many h_this_first h_this_lengths h_this_page N i_this_17 j_this f_this_text r20 hc21 _) (kgV (kq q_1101 rfl) (kq q_1103 rfl) (kq q_20 rfl) (kq q_66 rfl) (kq q_1104 rfl)) yd_X10_sees ⟨Nat.le_of_ble_eq_true rfl, Nat.le_of_ble_eq_true rfl⟩ hN hK hP hD [0, 3] rfl rfl (ci := 9) rfl rfl rfl rfl rfl hl.1 rfl (lv_room (Nat.le_of_ble_eq_true rfl)) dX10_moment_107) hP hD hS hA [0, 3] rfl rfl (fun H locs hP hD hS => ?_)
    have hP : va_P (dC, dI) vwCl [cl_X10 h_this h_this_dayAt h_this_secondAt h_this_spans h_this_kept h_this_text h_this_row h_this_read h_this_many h_this_first h_this_lengths h_this_page i_this_17 j_this, (h_this_dayAt, .inl (cI, 8, .inl f_this_dayAt)), (h_this_secondAt, .inl (cI, 8, .inl f_this_secondAt)), (h_this_text, .inl (cB, 100, .inl f_this_text))] H := hP
    have hD : va_D A [cl_X10 h_this h_this_dayAt h_this_secondAt h_this_spans h_this_kept h_this_text h_this_row h_this_read h_this_many h_this_first h_this_lengths h_this_page i_this_17 j_this, (h_this_dayAt, .inl (cI, 8, .inl f_this_dayAt)), (h_this_secondAt, .inl (cI, 8, .inl f_this_secondAt)), (h_this_text, .inl (cB, 100, .inl f_this_text))] := hD
    refine lv_bipush (v := (84 : Int32)) hx hb dX10_moment_110 (by decide) ?_
    refine lv_icmp_ne (tgt := 177) hx hb dX10_moment_112 (by decide) (fun c22 => ?_) (fun c22 => ?_)
    · have h := ite_f c22 h
      exact JN_177 _ _ _ _ _ _ _ _ _ _ _ h (lv_sub hl [2, 3, 4, 5, 1, 0] rfl) hP hD hS
    have h := ite_t c22 h
    refine lv_aload_n hx hb dX10_moment_115 rfl (lv_at hl 2 rfl) ?_
    refine lv_dup hx hb dX10_moment_116 rfl ?_
    refine va_get (D := (dC, dI)) (ci := 9) (v := .int (i_this_17 17)) (C := RX10) (T := TX10) (N := 29) hx hb hts inX10 hown hK hP 0 rfl rfl 17 (by decide) (hts _ (kq q_1003 rfl)) (fun _ h9 => h9) rfl dX10_moment_117 ?_
    refine lv_iconst (v := (1 : Int32)) hx hb dX10_moment_120 (by decide) ?_
    refine lv_iadd hx hb dX10_moment_121 ?_
    refine va_put (D := (dC, dI)) (ci := 9) (v := .int ((i_this_17 17) + (1 : Int32))) (ty := .int) (C := RX10) (T := TX10) (N := 29) hx hb hts inX10 tyX10 tyX10_ok nmX10 hown hK hP hD hS 0 rfl rfl 17 (by decide) (hts _ (kq q_1003 rfl)) (fun _ h9 => h9) rfl (by decide +kernel) rfl rfl (Nat.le_of_ble_eq_true rfl) dX10_moment_122 (fun H locs hP hD hS => ?_)
    have hP : va_P (dC, dI) vwCl [(h_this, .inr (9, [.ref h_this_dayAt, .ref h_this_secondAt, .ref h_this_spans, .ref h_this_kept, .int (i_this_17 4), .ref h_this_text, .int (i_this_17 6), .ref h_this_row, .int (i_this_17 8), .int (i_this_17 9), .int (i_this_17 10), .int (i_this_17 11), .int (i_this_17 12), .int (i_this_17 13), .int (i_this_17 14), .int (i_this_17 15), .int (i_this_17 16), .int ((i_this_17 17) + (1 : Int32)), .int (i_this_17 18), .ref h_this_read, .long (j_this 20), .ref h_this_many, .ref h_this_first, .ref h_this_lengths, .int (i_this_17 24), .long (j_this 25), .long (j_this 26), .ref h_this_page, .int (i_this_17 28)])), (h_this_dayAt, .inl (cI, 8, .inl f_this_dayAt)), (h_this_secondAt, .inl (cI, 8, .inl f_this_secondAt)), (h_this_text, .inl (cB, 100, .inl f_this_text))] H := hP
    have hD : va_D A [(h_this, .inr (9, [.ref h_this_dayAt, .ref h_this_secondAt, .ref h_this_spans, .ref h_this_kept, .int (i_this_17 4), .ref h_this_text, .int (i_this_17 6), .ref h_this_row, .int (i_this_17 8), .int (i_this_17 9), .int (i_this_17 10), .int (i_this_17 11), .int (i_this_17 12), .int (i_this_17 13), .int (i_this_17 14), .int (i_this_17 15), .int (i_this_17 16), .int ((i_this_17 17) + (1 : Int32)), .int (i_this_17 18), .ref h_this_read, .long (j_this 20), .ref h_this_many, .ref h_this_first, .ref h_this_lengths, .int (i_this_17 24), .long (j_this 25), .long (j_this 26), .ref h_this_page, .int (i_this_17 28)])), (h_this_dayAt, .inl (cI, 8, .inl f_this_dayAt)), (h_this_secondAt, .inl (cI, 8, .inl f_this_secondAt)), (h_this_text, .inl (cB, 100, .inl f_this_text))] := hD
    refine lv_sipush (v := (3600 : Int32)) hx hb dX10_moment_125 (by decide) ?_
    refine lv_aload_n hx hb dX10_moment_128 rfl (lv_at hl 2 rfl) ?_
    refine lv_iconst (v := (0 : Int32)) hx hb dX10_moment_129 (by decide) ?_
    refine lv_bipush (v := (23 : Int32)) hx hb dX10_moment_130 (by decide) ?_
    have hP : va_P (dC, dI) vwCl [cl_X10 h_this h_this_dayAt h_this_secondAt h_this_spans h_this_kept h_this_text h_this_row h_this_read h_this_many h_this_first h_this_lengths h_this_page (upd i_this_17 17 ((i_this_17 17) + (1 : Int32))) j_this, (h_this_dayAt, .inl (cI, 8, .inl f_this_dayAt)), (h_this_secondAt, .inl (cI, 8, .inl f_this_secondAt)), (h_this_text, .inl (cB, 100, .inl f_this_text))] H := hP
    have hD : va_D A [cl_X10 h_this h_this_dayAt h_this_secondAt h_this_spans h_this_kept h_this_text h_this_row h_this_read h_this_many h_this_first h_this_lengths h_this_page (upd i_this_17 17 ((i_this_17 17) + (1 : Int32))) j_this, (h_this_dayAt, .inl (cI, 8, .inl f_this_dayAt)), (h_this_secondAt, .inl (cI, 8, .inl f_this_secondAt)), (h_this_text, .inl (cB, 100, .inl f_this_text))] := hD
    obtain ⟨r23, i_this_24, hc25, h⟩ := bd2_at h
    refine kjI (kV (own := "DateSpansModel") (C := "DateSpansModel") (b := h_this) (As := [.int (0 : Int32), .int (23 : Int32)]) (rest := [.int (3600 : Int32)]) ⟨hx, hb, hml, hown, hts⟩ (kX10_two l dC dI cI cJ cB h_this h_this_dayAt h_this_secondAt h_this_spans h_this_kept h_this_text h_this_row h_this_read h_this_many h_this_first h_this_lengths h_this_page N (0 : Int32) (23 : Int32) (upd i_this_17 17 ((i_this_17 17) + (1 : Int32))) j_this f_this_text r23 i_this_24 hc25 _) (kgV (kq q_1113 rfl) (kq q_1115 rfl) (kq q_23 rfl) (kq q_66 rfl) (kq q_1116 rfl)) yd_X10_two ⟨Nat.le_of_ble_eq_true rfl, Nat.le_of_ble_eq_true rfl⟩ hN hK hP hD [0, 3] rfl rfl (ci := 9) rfl rfl rfl rfl rfl hl.1 rfl (lv_room (Nat.le_of_ble_eq_true rfl)) dX10_moment_132) hP hD hS hA [0, 3] rfl rfl (fun H locs hP hD hS => ?_)
    have hP : va_P (dC, dI) vwCl [cl_X10 h_this h_this_dayAt h_this_secondAt h_this_spans h_this_kept h_this_text h_this_row h_this_read h_this_many h_this_first h_this_lengths h_this_page i_this_24 j_this, (h_this_dayAt, .inl (cI, 8, .inl f_this_dayAt)), (h_this_secondAt, .inl (cI, 8, .inl f_this_secondAt)), (h_this_text, .inl (cB, 100, .inl f_this_text))] H := hP
    have hD : va_D A [cl_X10 h_this h_this_dayAt h_this_secondAt h_this_spans h_this_kept h_this_text h_this_row h_this_read h_this_many h_this_first h_this_lengths h_this_page i_this_24 j_this, (h_this_dayAt, .inl (cI, 8, .inl f_this_dayAt)), (h_this_secondAt, .inl (cI, 8, .inl f_this_secondAt)), (h_this_text, .inl (cB, 100, .inl f_this_text))] := hD
    refine lv_imul hx hb dX10_moment_135 ?_
    refine lv_topi (fun z26 ez26 => ?_)
    have h := nm_at ez26 h
    refine lv_istore (lv' := [(5, .int z26), (4, .int r16), (0, .ref h_this), (1, .int v1), (2, .int v2), (3, .int v3)]) hx hb dX10_moment_136 hl (by decide) rfl (fun ls hl => ?_)
    refine lv_aload_n hx hb dX10_moment_138 rfl (lv_at hl 2 rfl) ?_
    refine lv_bipush (v := (58 : Int32)) hx hb dX10_moment_139 (by decide) ?_
    obtain ⟨i_this_27, hc28, h⟩ := bd1_at h
    refine kjV (kV (own := "DateSpansModel") (C := "DateSpansModel") (b := h_this) (As := [.int (58 : Int32)]) (rest := []) ⟨hx, hb, hml, hown, hts⟩ (kX10_expect l dC dI cI cJ cB h_this h_this_dayAt h_this_secondAt h_this_spans h_this_kept h_this_text h_this_row h_this_read h_this_many h_this_first h_this_lengths h_this_page N (58 : Int32) i_this_24 j_this f_this_text i_this_27 hc28 _) (kgV (kq q_1109 rfl) (kq q_1111 rfl) (kq q_22 rfl) (kq q_66 rfl) (kq q_1112 rfl)) yd_X10_expect ⟨Nat.le_of_ble_eq_true rfl, Nat.le_of_ble_eq_true rfl⟩ hN hK hP hD [0, 3] rfl rfl (ci := 9) rfl rfl rfl rfl rfl hl.1 rfl (lv_room (Nat.le_of_ble_eq_true rfl)) dX10_moment_141) hP hD hS hA [0, 3] rfl rfl (fun H locs hP hD hS => ?_)
    have hP : va_P (dC, dI) vwCl [cl_X10 h_this h_this_dayAt h_this_secondAt h_this_spans h_this_kept h_this_text h_this_row h_this_read h_this_many h_this_first h_this_lengths h_this_page i_this_27 j_this, (h_this_dayAt, .inl (cI, 8, .inl f_this_dayAt)), (h_this_secondAt, .inl (cI, 8, .inl f_this_secondAt)), (h_this_text, .inl (cB, 100, .inl f_this_text))] H := hP
    have hD : va_D A [cl_X10 h_this h_this_dayAt h_this_secondAt h_this_spans h_this_kept h_this_text h_this_row h_this_read h_this_many h_this_first h_this_lengths h_this_page i_this_27 j_this, (h_this_dayAt, .inl (cI, 8, .inl f_this_dayAt)), (h_this_secondAt, .inl (cI, 8, .inl f_this_secondAt)), (h_this_text, .inl (cB, 100, .inl f_this_text))] := hD
    refine lv_iload hx hb dX10_moment_144 (lv_at hl 0 rfl) ?_
    refine lv_bipush (v := (60 : Int32)) hx hb dX10_moment_146 (by decide) ?_
    refine lv_aload_n hx hb dX10_moment_148 rfl (lv_at hl 2 rfl) ?_
    refine lv_iconst (v := (0 : Int32)) hx hb dX10_moment_149 (by decide) ?_
    refine lv_bipush (v := (59 : Int32)) hx hb dX10_moment_150 (by decide) ?_
    obtain ⟨r29, i_this_30, hc31, h⟩ := bd2_at h
    refine kjI (kV (own := "DateSpansModel") (C := "DateSpansModel") (b := h_this) (As := [.int (0 : Int32), .int (59 : Int32)]) (rest := [.int (60 : Int32), .int z26]) ⟨hx, hb, hml, hown, hts⟩ (kX10_two l dC dI cI cJ cB h_this h_this_dayAt h_this_secondAt h_this_spans h_this_kept h_this_text h_this_row h_this_read h_this_many h_this_first h_this_lengths h_this_page N (0 : Int32) (59 : Int32) i_this_27 j_this f_this_text r29 i_this_30 hc31 _) (kgV (kq q_1113 rfl) (kq q_1115 rfl) (kq q_23 rfl) (kq q_66 rfl) (kq q_1116 rfl)) yd_X10_two ⟨Nat.le_of_ble_eq_true rfl, Nat.le_of_ble_eq_true rfl⟩ hN hK hP hD [0, 3] rfl rfl (ci := 9) rfl rfl rfl rfl rfl hl.1 rfl (lv_room (Nat.le_of_ble_eq_true rfl)) dX10_moment_152) hP hD hS hA [0, 3] rfl rfl (fun H locs hP hD hS => ?_)
    have hP : va_P (dC, dI) vwCl [cl_X10 h_this h_this_dayAt h_this_secondAt h_this_spans h_this_kept h_this_text h_this_row h_this_read h_this_many h_this_first h_this_lengths h_this_page i_this_30 j_this, (h_this_dayAt, .inl (cI, 8, .inl f_this_dayAt)), (h_this_secondAt, .inl (cI, 8, .inl f_this_secondAt)), (h_this_text, .inl (cB, 100, .inl f_this_text))] H := hP
    have hD : va_D A [cl_X10 h_this h_this_dayAt h_this_secondAt h_this_spans h_this_kept h_this_text h_this_row h_this_read h_this_many h_this_first h_this_lengths h_this_page i_this_30 j_this, (h_this_dayAt, .inl (cI, 8, .inl f_this_dayAt)), (h_this_secondAt, .inl (cI, 8, .inl f_this_secondAt)), (h_this_text, .inl (cB, 100, .inl f_this_text))] := hD
    refine lv_imul hx hb dX10_moment_155 ?_
    refine lv_iadd hx hb dX10_moment_156 ?_
    refine lv_topi (fun z32 ez32 => ?_)
    have h := nm_at ez32 h
    refine lv_istore (lv' := [(5, .int z32), (4, .int r16), (0, .ref h_this), (1, .int v1), (2, .int v2), (3, .int v3)]) hx hb dX10_moment_157 hl (by decide) rfl (fun ls hl => ?_)
    refine lv_aload_n hx hb dX10_moment_159 rfl (lv_at hl 2 rfl) ?_
    refine lv_bipush (v := (58 : Int32)) hx hb dX10_moment_160 (by decide) ?_
    obtain ⟨i_this_33, hc34, h⟩ := bd1_at h
    refine kjV (kV (own := "DateSpansModel") (C := "DateSpansModel") (b := h_this) (As := [.int (58 : Int32)]) (rest := []) ⟨hx, hb, hml, hown, hts⟩ (kX10_expect l dC dI cI cJ cB h_this h_this_dayAt h_this_secondAt h_this_spans h_this_kept h_this_text h_this_row h_this_read h_this_many h_this_first h_this_lengths h_this_page N (58 : Int32) i_this_30 j_this f_this_text i_this_33 hc34 _) (kgV (kq q_1109 rfl) (kq q_1111 rfl) (kq q_22 rfl) (kq q_66 rfl) (kq q_1112 rfl)) yd_X10_expect ⟨Nat.le_of_ble_eq_true rfl, Nat.le_of_ble_eq_true rfl⟩ hN hK hP hD [0, 3] rfl rfl (ci := 9) rfl rfl rfl rfl rfl hl.1 rfl (lv_room (Nat.le_of_ble_eq_true rfl)) dX10_moment_162) hP hD hS hA [0, 3] rfl rfl (fun H locs hP hD hS => ?_)
    have hP : va_P (dC, dI) vwCl [cl_X10 h_this h_this_dayAt h_this_secondAt h_this_spans h_this_kept h_this_text h_this_row h_this_read h_this_many h_this_first h_this_lengths h_this_page i_this_33 j_this, (h_this_dayAt, .inl (cI, 8, .inl f_this_dayAt)), (h_this_secondAt, .inl (cI, 8, .inl f_this_secondAt)), (h_this_text, .inl (cB, 100, .inl f_this_text))] H := hP
    have hD : va_D A [cl_X10 h_this h_this_dayAt h_this_secondAt h_this_spans h_this_kept h_this_text h_this_row h_this_read h_this_many h_this_first h_this_lengths h_this_page i_this_33 j_this, (h_this_dayAt, .inl (cI, 8, .inl f_this_dayAt)), (h_this_secondAt, .inl (cI, 8, .inl f_this_secondAt)), (h_this_text, .inl (cB, 100, .inl f_this_text))] := hD
    refine lv_iload hx hb dX10_moment_165 (lv_at hl 0 rfl) ?_
    refine lv_aload_n hx hb dX10_moment_167 rfl (lv_at hl 2 rfl) ?_
    refine lv_iconst (v := (0 : Int32)) hx hb dX10_moment_168 (by decide) ?_
    refine lv_bipush (v := (59 : Int32)) hx hb dX10_moment_169 (by decide) ?_
    obtain ⟨r35, i_this_36, hc37, h⟩ := bd2_at h
    refine kjI (kV (own := "DateSpansModel") (C := "DateSpansModel") (b := h_this) (As := [.int (0 : Int32), .int (59 : Int32)]) (rest := [.int z32]) ⟨hx, hb, hml, hown, hts⟩ (kX10_two l dC dI cI cJ cB h_this h_this_dayAt h_this_secondAt h_this_spans h_this_kept h_this_text h_this_row h_this_read h_this_many h_this_first h_this_lengths h_this_page N (0 : Int32) (59 : Int32) i_this_33 j_this f_this_text r35 i_this_36 hc37 _) (kgV (kq q_1113 rfl) (kq q_1115 rfl) (kq q_23 rfl) (kq q_66 rfl) (kq q_1116 rfl)) yd_X10_two ⟨Nat.le_of_ble_eq_true rfl, Nat.le_of_ble_eq_true rfl⟩ hN hK hP hD [0, 3] rfl rfl (ci := 9) rfl rfl rfl rfl rfl hl.1 rfl (lv_room (Nat.le_of_ble_eq_true rfl)) dX10_moment_171) hP hD hS hA [0, 3] rfl rfl (fun H locs hP hD hS => ?_)
    have hP : va_P (dC, dI) vwCl [cl_X10 h_this h_this_dayAt h_this_secondAt h_this_spans h_this_kept h_this_text h_this_row h_this_read h_this_many h_this_first h_this_lengths h_this_page i_this_36 j_this, (h_this_dayAt, .inl (cI, 8, .inl f_this_dayAt)), (h_this_secondAt, .inl (cI, 8, .inl f_this_secondAt)), (h_this_text, .inl (cB, 100, .inl f_this_text))] H := hP
    have hD : va_D A [cl_X10 h_this h_this_dayAt h_this_secondAt h_this_spans h_this_kept h_this_text h_this_row h_this_read h_this_many h_this_first h_this_lengths h_this_page i_this_36 j_this, (h_this_dayAt, .inl (cI, 8, .inl f_this_dayAt)), (h_this_secondAt, .inl (cI, 8, .inl f_this_secondAt)), (h_this_text, .inl (cB, 100, .inl f_this_text))] := hD
    refine lv_iadd hx hb dX10_moment_174 ?_
    refine lv_topi (fun z38 ez38 => ?_)
    have h := nm_at ez38 h
    refine lv_istore (lv' := [(5, .int z38), (4, .int r16), (0, .ref h_this), (1, .int v1), (2, .int v2), (3, .int v3)]) hx hb dX10_moment_175 hl (by decide) rfl (fun ls hl => ?_)
    exact JN_177 _ _ _ _ _ _ _ _ _ _ _ h (lv_sub hl [2, 3, 4, 5, 1, 0] rfl) hP hD hS
  have LP_13 : ∀ n_13 : Nat, ∀ (v1 : Int32) (v2 : Int32) (v3 : Int32) (i_this : Nat → Int32) (f_this_dayAt : Nat → Int32) (f_this_secondAt : Nat → Int32) (ls : Array Slot) (H : Heap) (locs : List Loc), fX10_moment_l13 N j_this f_this_text n_13 v1 v2 v3 i_this f_this_dayAt f_this_secondAt = some (r, o_i_this, o_f_this_dayAt, o_f_this_secondAt) → lv_has ls 6 [(0, .ref h_this), (1, .int v1), (2, .int v2), (3, .int v3)] → va_P (dC, dI) vwCl [cl_X10 h_this h_this_dayAt h_this_secondAt h_this_spans h_this_kept h_this_text h_this_row h_this_read h_this_many h_this_first h_this_lengths h_this_page i_this j_this, (h_this_dayAt, .inl (cI, 8, .inl f_this_dayAt)), (h_this_secondAt, .inl (cI, 8, .inl f_this_secondAt)), (h_this_text, .inl (cB, 100, .inl f_this_text))] H → va_D A [cl_X10 h_this h_this_dayAt h_this_secondAt h_this_spans h_this_kept h_this_text h_this_row h_this_read h_this_many h_this_first h_this_lengths h_this_page i_this j_this, (h_this_dayAt, .inl (cI, 8, .inl f_this_dayAt)), (h_this_secondAt, .inl (cI, 8, .inl f_this_secondAt)), (h_this_text, .inl (cB, 100, .inl f_this_text))] → va_S A s.heap H locs → W p l e (kR 3 71) s m args below meth c H locs 0 0 Q (F0 m 13 ls []) := by
    intro n_13
    induction n_13 with
    | zero =>
      intro v1 v2 v3 i_this f_this_dayAt f_this_secondAt ls H locs h hl hP hD hS
      rw [fX10_moment_l13_0] at h; cases h
    | succ n_13 ih_13 =>
      intro v1 v2 v3 i_this f_this_dayAt f_this_secondAt ls H locs h hl hP hD hS
      rw [fX10_moment_l13_s] at h
      refine lv_iload_n hx hb dX10_moment_13 rfl (lv_at hl 3 rfl) ?_
      refine lv_iconst (v := (4 : Int32)) hx hb dX10_moment_14 (by decide) ?_
      refine lv_icmp_ge (tgt := 50) hx hb dX10_moment_15 (by decide) (fun c39 => ?_) (fun c39 => ?_)
      · have h := ite_t c39 h
        refine lv_aload_n hx hb dX10_moment_50 rfl (lv_at hl 0 rfl) ?_
        refine lv_bipush (v := (45 : Int32)) hx hb dX10_moment_51 (by decide) ?_
        obtain ⟨i_this_40, hc41, h⟩ := bd1_at h
        refine kjV (kV (own := "DateSpansModel") (C := "DateSpansModel") (b := h_this) (As := [.int (45 : Int32)]) (rest := []) ⟨hx, hb, hml, hown, hts⟩ (kX10_expect l dC dI cI cJ cB h_this h_this_dayAt h_this_secondAt h_this_spans h_this_kept h_this_text h_this_row h_this_read h_this_many h_this_first h_this_lengths h_this_page N (45 : Int32) i_this j_this f_this_text i_this_40 hc41 _) (kgV (kq q_1109 rfl) (kq q_1111 rfl) (kq q_22 rfl) (kq q_66 rfl) (kq q_1112 rfl)) yd_X10_expect ⟨Nat.le_of_ble_eq_true rfl, Nat.le_of_ble_eq_true rfl⟩ hN hK hP hD [0, 3] rfl rfl (ci := 9) rfl rfl rfl rfl rfl hl.1 rfl (lv_room (Nat.le_of_ble_eq_true rfl)) dX10_moment_53) hP hD hS hA [0, 3] rfl rfl (fun H locs hP hD hS => ?_)
        have hP : va_P (dC, dI) vwCl [cl_X10 h_this h_this_dayAt h_this_secondAt h_this_spans h_this_kept h_this_text h_this_row h_this_read h_this_many h_this_first h_this_lengths h_this_page i_this_40 j_this, (h_this_dayAt, .inl (cI, 8, .inl f_this_dayAt)), (h_this_secondAt, .inl (cI, 8, .inl f_this_secondAt)), (h_this_text, .inl (cB, 100, .inl f_this_text))] H := hP
        have hD : va_D A [cl_X10 h_this h_this_dayAt h_this_secondAt h_this_spans h_this_kept h_this_text h_this_row h_this_read h_this_many h_this_first h_this_lengths h_this_page i_this_40 j_this, (h_this_dayAt, .inl (cI, 8, .inl f_this_dayAt)), (h_this_secondAt, .inl (cI, 8, .inl f_this_secondAt)), (h_this_text, .inl (cB, 100, .inl f_this_text))] := hD
        refine lv_aload_n hx hb dX10_moment_56 rfl (lv_at hl 0 rfl) ?_
        refine lv_iconst (v := (1 : Int32)) hx hb dX10_moment_57 (by decide) ?_
        refine lv_bipush (v := (12 : Int32)) hx hb dX10_moment_58 (by decide) ?_
        obtain ⟨r42, i_this_43, hc44, h⟩ := bd2_at h
        refine kjI (kV (own := "DateSpansModel") (C := "DateSpansModel") (b := h_this) (As := [.int (1 : Int32), .int (12 : Int32)]) (rest := []) ⟨hx, hb, hml, hown, hts⟩ (kX10_two l dC dI cI cJ cB h_this h_this_dayAt h_this_secondAt h_this_spans h_this_kept h_this_text h_this_row h_this_read h_this_many h_this_first h_this_lengths h_this_page N (1 : Int32) (12 : Int32) i_this_40 j_this f_this_text r42 i_this_43 hc44 _) (kgV (kq q_1113 rfl) (kq q_1115 rfl) (kq q_23 rfl) (kq q_66 rfl) (kq q_1116 rfl)) yd_X10_two ⟨Nat.le_of_ble_eq_true rfl, Nat.le_of_ble_eq_true rfl⟩ hN hK hP hD [0, 3] rfl rfl (ci := 9) rfl rfl rfl rfl rfl hl.1 rfl (lv_room (Nat.le_of_ble_eq_true rfl)) dX10_moment_60) hP hD hS hA [0, 3] rfl rfl (fun H locs hP hD hS => ?_)
        have hP : va_P (dC, dI) vwCl [cl_X10 h_this h_this_dayAt h_this_secondAt h_this_spans h_this_kept h_this_text h_this_row h_this_read h_this_many h_this_first h_this_lengths h_this_page i_this_43 j_this, (h_this_dayAt, .inl (cI, 8, .inl f_this_dayAt)), (h_this_secondAt, .inl (cI, 8, .inl f_this_secondAt)), (h_this_text, .inl (cB, 100, .inl f_this_text))] H := hP
        have hD : va_D A [cl_X10 h_this h_this_dayAt h_this_secondAt h_this_spans h_this_kept h_this_text h_this_row h_this_read h_this_many h_this_first h_this_lengths h_this_page i_this_43 j_this, (h_this_dayAt, .inl (cI, 8, .inl f_this_dayAt)), (h_this_secondAt, .inl (cI, 8, .inl f_this_secondAt)), (h_this_text, .inl (cB, 100, .inl f_this_text))] := hD
        refine lv_istore_n (lv' := [(3, .int r42), (0, .ref h_this), (1, .int v1), (2, .int v2)]) hx hb dX10_moment_63 rfl hl (by decide) rfl (fun ls hl => ?_)
        refine lv_aload_n hx hb dX10_moment_64 rfl (lv_at hl 1 rfl) ?_
        refine lv_bipush (v := (45 : Int32)) hx hb dX10_moment_65 (by decide) ?_
        obtain ⟨i_this_45, hc46, h⟩ := bd1_at h
        refine kjV (kV (own := "DateSpansModel") (C := "DateSpansModel") (b := h_this) (As := [.int (45 : Int32)]) (rest := []) ⟨hx, hb, hml, hown, hts⟩ (kX10_expect l dC dI cI cJ cB h_this h_this_dayAt h_this_secondAt h_this_spans h_this_kept h_this_text h_this_row h_this_read h_this_many h_this_first h_this_lengths h_this_page N (45 : Int32) i_this_43 j_this f_this_text i_this_45 hc46 _) (kgV (kq q_1109 rfl) (kq q_1111 rfl) (kq q_22 rfl) (kq q_66 rfl) (kq q_1112 rfl)) yd_X10_expect ⟨Nat.le_of_ble_eq_true rfl, Nat.le_of_ble_eq_true rfl⟩ hN hK hP hD [0, 3] rfl rfl (ci := 9) rfl rfl rfl rfl rfl hl.1 rfl (lv_room (Nat.le_of_ble_eq_true rfl)) dX10_moment_67) hP hD hS hA [0, 3] rfl rfl (fun H locs hP hD hS => ?_)
        have hP : va_P (dC, dI) vwCl [cl_X10 h_this h_this_dayAt h_this_secondAt h_this_spans h_this_kept h_this_text h_this_row h_this_read h_this_many h_this_first h_this_lengths h_this_page i_this_45 j_this, (h_this_dayAt, .inl (cI, 8, .inl f_this_dayAt)), (h_this_secondAt, .inl (cI, 8, .inl f_this_secondAt)), (h_this_text, .inl (cB, 100, .inl f_this_text))] H := hP
        have hD : va_D A [cl_X10 h_this h_this_dayAt h_this_secondAt h_this_spans h_this_kept h_this_text h_this_row h_this_read h_this_many h_this_first h_this_lengths h_this_page i_this_45 j_this, (h_this_dayAt, .inl (cI, 8, .inl f_this_dayAt)), (h_this_secondAt, .inl (cI, 8, .inl f_this_secondAt)), (h_this_text, .inl (cB, 100, .inl f_this_text))] := hD
        refine lv_aload_n hx hb dX10_moment_70 rfl (lv_at hl 1 rfl) ?_
        refine lv_iconst (v := (1 : Int32)) hx hb dX10_moment_71 (by decide) ?_
        refine lv_aload_n hx hb dX10_moment_72 rfl (lv_at hl 1 rfl) ?_
        refine va_get (D := (dC, dI)) (ci := 9) (v := .int (i_this_45 18)) (C := RX10) (T := TX10) (N := 29) hx hb hts inX10 hown hK hP 0 rfl rfl 18 (by decide) (hts _ (kq q_1004 rfl)) (fun _ h9 => h9) rfl dX10_moment_73 ?_
        refine lv_iconst (v := (-1 : Int32)) hx hb dX10_moment_76 (by decide) ?_
        refine lv_icmp_ne (tgt := 88) hx hb dX10_moment_77 (by decide) (fun c47 => ?_) (fun c47 => ?_)
        · have h := ite_f c47 h
          refine lv_bipush (v := (28 : Int32)) hx hb dX10_moment_88 (by decide) ?_
          exact JN_90 _ _ _ _ _ _ _ _ _ _ _ h (lv_sub hl [1, 2, 3, 0] rfl) hP hD hS
        have h := ite_t c47 h
        refine lv_iload_n hx hb dX10_moment_80 rfl (lv_at hl 3 rfl) ?_
        refine lv_iload_n hx hb dX10_moment_81 rfl (lv_at hl 0 rfl) ?_
        obtain ⟨r48, hc49, h⟩ := bd1_at h
        refine kjSI (kS0 (own := "DateSpansModel") (As := [.int v2, .int r42]) (rest := [.int (1 : Int32), .ref h_this]) ⟨hx, hb, hml, hown, hts⟩ (kX10_monthDays l N v2 r42 r48 hc49) (kgS (kq q_1117 rfl) (kq q_1118 rfl) (kq q_66 rfl) (kq q_1119 rfl)) yd_X10_monthDays ⟨Nat.le_of_ble_eq_true rfl, Nat.le_of_ble_eq_true rfl⟩ rfl rfl hl.1 rfl (lv_room (Nat.le_of_ble_eq_true rfl)) dX10_moment_82) ?_
        refine lv_goto (tgt := 90) hx hb dX10_moment_85 (by decide) ?_
        exact JN_90 _ _ _ _ _ _ _ _ _ _ _ h (lv_sub hl [1, 2, 3, 0] rfl) hP hD hS
      have h := ite_f c39 h
      refine lv_bipush (v := (10 : Int32)) hx hb dX10_moment_18 (by decide) ?_
      refine lv_iload_n hx hb dX10_moment_20 rfl (lv_at hl 2 rfl) ?_
      refine lv_imul hx hb dX10_moment_21 ?_
      refine lv_aload_n hx hb dX10_moment_22 rfl (lv_at hl 0 rfl) ?_
      refine lv_iload_n hx hb dX10_moment_23 rfl (lv_at hl 3 rfl) ?_
      refine lv_iconst (v := (3 : Int32)) hx hb dX10_moment_24 (by decide) ?_
      refine lv_icmp_ne (tgt := 36) hx hb dX10_moment_25 (by decide) (fun c50 => ?_) (fun c50 => ?_)
      · have h := ite_f c50 h
        refine lv_iconst (v := (0 : Int32)) hx hb dX10_moment_36 (by decide) ?_
        refine lv_bipush (v := (9 : Int32)) hx hb dX10_moment_37 (by decide) ?_
        obtain ⟨r51, i_this_52, hc53, h⟩ := bd2_at h
        refine kjI (kV (own := "DateSpansModel") (C := "DateSpansModel") (b := h_this) (As := [.int (0 : Int32), .int (9 : Int32)]) (rest := [.int ((10 : Int32) * v2)]) ⟨hx, hb, hml, hown, hts⟩ (kX10_digit l dC dI cI cJ cB h_this h_this_dayAt h_this_secondAt h_this_spans h_this_kept h_this_text h_this_row h_this_read h_this_many h_this_first h_this_lengths h_this_page N (0 : Int32) (9 : Int32) i_this j_this f_this_text r51 i_this_52 hc53 _) (kgV (kq q_1097 rfl) (kq q_1099 rfl) (kq q_19 rfl) (kq q_66 rfl) (kq q_1100 rfl)) yd_X10_digit ⟨Nat.le_of_ble_eq_true rfl, Nat.le_of_ble_eq_true rfl⟩ hN hK hP hD [0, 3] rfl rfl (ci := 9) rfl rfl rfl rfl rfl hl.1 rfl (lv_room (Nat.le_of_ble_eq_true rfl)) dX10_moment_39) hP hD hS hA [0, 3] rfl rfl (fun H locs hP hD hS => ?_)
        have hP : va_P (dC, dI) vwCl [cl_X10 h_this h_this_dayAt h_this_secondAt h_this_spans h_this_kept h_this_text h_this_row h_this_read h_this_many h_this_first h_this_lengths h_this_page i_this_52 j_this, (h_this_dayAt, .inl (cI, 8, .inl f_this_dayAt)), (h_this_secondAt, .inl (cI, 8, .inl f_this_secondAt)), (h_this_text, .inl (cB, 100, .inl f_this_text))] H := hP
        have hD : va_D A [cl_X10 h_this h_this_dayAt h_this_secondAt h_this_spans h_this_kept h_this_text h_this_row h_this_read h_this_many h_this_first h_this_lengths h_this_page i_this_52 j_this, (h_this_dayAt, .inl (cI, 8, .inl f_this_dayAt)), (h_this_secondAt, .inl (cI, 8, .inl f_this_secondAt)), (h_this_text, .inl (cB, 100, .inl f_this_text))] := hD
        refine lv_iadd hx hb dX10_moment_42 ?_
        refine lv_topi (fun z54 ez54 => ?_)
        have h := nm_at ez54 h
        refine lv_istore_n (lv' := [(2, .int z54), (0, .ref h_this), (1, .int v1), (3, .int v3)]) hx hb dX10_moment_43 rfl hl (by decide) rfl (fun ls hl => ?_)
        obtain ⟨z55, ez55⟩ : ∃ y : Int32, y = (v3 + (1 : Int32)) := ⟨_, rfl⟩
        have h := nm_at ez55 h
        refine lv_iinc (v := z55) (lv' := [(3, .int z55), (2, .int z54), (0, .ref h_this), (1, .int v1)]) hx hb dX10_moment_44 hl (k := 3) rfl (by rw [ez55]; rfl) (by decide) rfl (fun ls hl => ?_)
        refine lv_goto (tgt := 13) hx hb dX10_moment_47 (by decide) ?_
        exact ih_13 _ _ _ _ _ _ _ _ _ h (lv_sub hl [2, 3, 1, 0] rfl) hP hD hS
      have h := ite_t c50 h
      refine lv_iload_n hx hb dX10_moment_28 rfl (lv_at hl 2 rfl) ?_
      refine lv_if_ne (tgt := 36) hx hb dX10_moment_29 (by decide) (fun c56 => ?_) (fun c56 => ?_)
      · have h := ite_f c56 h
        refine lv_iconst (v := (0 : Int32)) hx hb dX10_moment_36 (by decide) ?_
        refine lv_bipush (v := (9 : Int32)) hx hb dX10_moment_37 (by decide) ?_
        obtain ⟨r57, i_this_58, hc59, h⟩ := bd2_at h
        refine kjI (kV (own := "DateSpansModel") (C := "DateSpansModel") (b := h_this) (As := [.int (0 : Int32), .int (9 : Int32)]) (rest := [.int ((10 : Int32) * v2)]) ⟨hx, hb, hml, hown, hts⟩ (kX10_digit l dC dI cI cJ cB h_this h_this_dayAt h_this_secondAt h_this_spans h_this_kept h_this_text h_this_row h_this_read h_this_many h_this_first h_this_lengths h_this_page N (0 : Int32) (9 : Int32) i_this j_this f_this_text r57 i_this_58 hc59 _) (kgV (kq q_1097 rfl) (kq q_1099 rfl) (kq q_19 rfl) (kq q_66 rfl) (kq q_1100 rfl)) yd_X10_digit ⟨Nat.le_of_ble_eq_true rfl, Nat.le_of_ble_eq_true rfl⟩ hN hK hP hD [0, 3] rfl rfl (ci := 9) rfl rfl rfl rfl rfl hl.1 rfl (lv_room (Nat.le_of_ble_eq_true rfl)) dX10_moment_39) hP hD hS hA [0, 3] rfl rfl (fun H locs hP hD hS => ?_)
        have hP : va_P (dC, dI) vwCl [cl_X10 h_this h_this_dayAt h_this_secondAt h_this_spans h_this_kept h_this_text h_this_row h_this_read h_this_many h_this_first h_this_lengths h_this_page i_this_58 j_this, (h_this_dayAt, .inl (cI, 8, .inl f_this_dayAt)), (h_this_secondAt, .inl (cI, 8, .inl f_this_secondAt)), (h_this_text, .inl (cB, 100, .inl f_this_text))] H := hP
        have hD : va_D A [cl_X10 h_this h_this_dayAt h_this_secondAt h_this_spans h_this_kept h_this_text h_this_row h_this_read h_this_many h_this_first h_this_lengths h_this_page i_this_58 j_this, (h_this_dayAt, .inl (cI, 8, .inl f_this_dayAt)), (h_this_secondAt, .inl (cI, 8, .inl f_this_secondAt)), (h_this_text, .inl (cB, 100, .inl f_this_text))] := hD
        refine lv_iadd hx hb dX10_moment_42 ?_
        refine lv_topi (fun z60 ez60 => ?_)
        have h := nm_at ez60 h
        refine lv_istore_n (lv' := [(2, .int z60), (0, .ref h_this), (1, .int v1), (3, .int v3)]) hx hb dX10_moment_43 rfl hl (by decide) rfl (fun ls hl => ?_)
        obtain ⟨z61, ez61⟩ : ∃ y : Int32, y = (v3 + (1 : Int32)) := ⟨_, rfl⟩
        have h := nm_at ez61 h
        refine lv_iinc (v := z61) (lv' := [(3, .int z61), (2, .int z60), (0, .ref h_this), (1, .int v1)]) hx hb dX10_moment_44 hl (k := 3) rfl (by rw [ez61]; rfl) (by decide) rfl (fun ls hl => ?_)
        refine lv_goto (tgt := 13) hx hb dX10_moment_47 (by decide) ?_
        exact ih_13 _ _ _ _ _ _ _ _ _ h (lv_sub hl [2, 3, 1, 0] rfl) hP hD hS
      have h := ite_t c56 h
      refine lv_iconst (v := (1 : Int32)) hx hb dX10_moment_32 (by decide) ?_
      refine lv_goto (tgt := 37) hx hb dX10_moment_33 (by decide) ?_
      refine lv_bipush (v := (9 : Int32)) hx hb dX10_moment_37 (by decide) ?_
      obtain ⟨r62, i_this_63, hc64, h⟩ := bd2_at h
      refine kjI (kV (own := "DateSpansModel") (C := "DateSpansModel") (b := h_this) (As := [.int (1 : Int32), .int (9 : Int32)]) (rest := [.int ((10 : Int32) * v2)]) ⟨hx, hb, hml, hown, hts⟩ (kX10_digit l dC dI cI cJ cB h_this h_this_dayAt h_this_secondAt h_this_spans h_this_kept h_this_text h_this_row h_this_read h_this_many h_this_first h_this_lengths h_this_page N (1 : Int32) (9 : Int32) i_this j_this f_this_text r62 i_this_63 hc64 _) (kgV (kq q_1097 rfl) (kq q_1099 rfl) (kq q_19 rfl) (kq q_66 rfl) (kq q_1100 rfl)) yd_X10_digit ⟨Nat.le_of_ble_eq_true rfl, Nat.le_of_ble_eq_true rfl⟩ hN hK hP hD [0, 3] rfl rfl (ci := 9) rfl rfl rfl rfl rfl hl.1 rfl (lv_room (Nat.le_of_ble_eq_true rfl)) dX10_moment_39) hP hD hS hA [0, 3] rfl rfl (fun H locs hP hD hS => ?_)
      have hP : va_P (dC, dI) vwCl [cl_X10 h_this h_this_dayAt h_this_secondAt h_this_spans h_this_kept h_this_text h_this_row h_this_read h_this_many h_this_first h_this_lengths h_this_page i_this_63 j_this, (h_this_dayAt, .inl (cI, 8, .inl f_this_dayAt)), (h_this_secondAt, .inl (cI, 8, .inl f_this_secondAt)), (h_this_text, .inl (cB, 100, .inl f_this_text))] H := hP
      have hD : va_D A [cl_X10 h_this h_this_dayAt h_this_secondAt h_this_spans h_this_kept h_this_text h_this_row h_this_read h_this_many h_this_first h_this_lengths h_this_page i_this_63 j_this, (h_this_dayAt, .inl (cI, 8, .inl f_this_dayAt)), (h_this_secondAt, .inl (cI, 8, .inl f_this_secondAt)), (h_this_text, .inl (cB, 100, .inl f_this_text))] := hD
      refine lv_iadd hx hb dX10_moment_42 ?_
      refine lv_topi (fun z65 ez65 => ?_)
      have h := nm_at ez65 h
      refine lv_istore_n (lv' := [(2, .int z65), (0, .ref h_this), (1, .int v1), (3, .int v3)]) hx hb dX10_moment_43 rfl hl (by decide) rfl (fun ls hl => ?_)
      obtain ⟨z66, ez66⟩ : ∃ y : Int32, y = (v3 + (1 : Int32)) := ⟨_, rfl⟩
      have h := nm_at ez66 h
      refine lv_iinc (v := z66) (lv' := [(3, .int z66), (2, .int z65), (0, .ref h_this), (1, .int v1)]) hx hb dX10_moment_44 hl (k := 3) rfl (by rw [ez66]; rfl) (by decide) rfl (fun ls hl => ?_)
      refine lv_goto (tgt := 13) hx hb dX10_moment_47 (by decide) ?_
      exact ih_13 _ _ _ _ _ _ _ _ _ h (lv_sub hl [2, 3, 1, 0] rfl) hP hD hS
  have h := hf
  unfold fX10_moment at h
  refine lv_aload_n hx hb dX10_moment_0 rfl (lv_at hl 0 rfl) ?_
  refine lv_iconst (v := (0 : Int32)) hx hb dX10_moment_1 (by decide) ?_
  refine va_put (D := (dC, dI)) (ci := 9) (v := .int (0 : Int32)) (ty := .int) (C := RX10) (T := TX10) (N := 29) hx hb hts inX10 tyX10 tyX10_ok nmX10 hown hK hP hD hS 0 rfl rfl 9 (by decide) (hts _ (kq q_995 rfl)) (fun _ h9 => h9) rfl (by decide +kernel) rfl rfl (Nat.le_of_ble_eq_true rfl) dX10_moment_2 (fun H locs hP hD hS => ?_)
  have hP : va_P (dC, dI) vwCl [(h_this, .inr (9, [.ref h_this_dayAt, .ref h_this_secondAt, .ref h_this_spans, .ref h_this_kept, .int (i_this 4), .ref h_this_text, .int (i_this 6), .ref h_this_row, .int (i_this 8), .int (0 : Int32), .int (i_this 10), .int (i_this 11), .int (i_this 12), .int (i_this 13), .int (i_this 14), .int (i_this 15), .int (i_this 16), .int (i_this 17), .int (i_this 18), .ref h_this_read, .long (j_this 20), .ref h_this_many, .ref h_this_first, .ref h_this_lengths, .int (i_this 24), .long (j_this 25), .long (j_this 26), .ref h_this_page, .int (i_this 28)])), (h_this_dayAt, .inl (cI, 8, .inl f_this_dayAt)), (h_this_secondAt, .inl (cI, 8, .inl f_this_secondAt)), (h_this_text, .inl (cB, 100, .inl f_this_text))] H := hP
  have hD : va_D A [(h_this, .inr (9, [.ref h_this_dayAt, .ref h_this_secondAt, .ref h_this_spans, .ref h_this_kept, .int (i_this 4), .ref h_this_text, .int (i_this 6), .ref h_this_row, .int (i_this 8), .int (0 : Int32), .int (i_this 10), .int (i_this 11), .int (i_this 12), .int (i_this 13), .int (i_this 14), .int (i_this 15), .int (i_this 16), .int (i_this 17), .int (i_this 18), .ref h_this_read, .long (j_this 20), .ref h_this_many, .ref h_this_first, .ref h_this_lengths, .int (i_this 24), .long (j_this 25), .long (j_this 26), .ref h_this_page, .int (i_this 28)])), (h_this_dayAt, .inl (cI, 8, .inl f_this_dayAt)), (h_this_secondAt, .inl (cI, 8, .inl f_this_secondAt)), (h_this_text, .inl (cB, 100, .inl f_this_text))] := hD
  refine lv_aload_n hx hb dX10_moment_5 rfl (lv_at hl 0 rfl) ?_
  have hP : va_P (dC, dI) vwCl [cl_X10 h_this h_this_dayAt h_this_secondAt h_this_spans h_this_kept h_this_text h_this_row h_this_read h_this_many h_this_first h_this_lengths h_this_page (upd i_this 9 (0 : Int32)) j_this, (h_this_dayAt, .inl (cI, 8, .inl f_this_dayAt)), (h_this_secondAt, .inl (cI, 8, .inl f_this_secondAt)), (h_this_text, .inl (cB, 100, .inl f_this_text))] H := hP
  have hD : va_D A [cl_X10 h_this h_this_dayAt h_this_secondAt h_this_spans h_this_kept h_this_text h_this_row h_this_read h_this_many h_this_first h_this_lengths h_this_page (upd i_this 9 (0 : Int32)) j_this, (h_this_dayAt, .inl (cI, 8, .inl f_this_dayAt)), (h_this_secondAt, .inl (cI, 8, .inl f_this_secondAt)), (h_this_text, .inl (cB, 100, .inl f_this_text))] := hD
  obtain ⟨i_this_67, hc68, h⟩ := bd1_at h
  refine kjV (kV (own := "DateSpansModel") (C := "DateSpansModel") (b := h_this) (As := []) (rest := []) ⟨hx, hb, hml, hown, hts⟩ (kX10_begin l dC dI cI cJ cB h_this h_this_dayAt h_this_secondAt h_this_spans h_this_kept h_this_text h_this_row h_this_read h_this_many h_this_first h_this_lengths h_this_page N (upd i_this 9 (0 : Int32)) j_this i_this_67 hc68 _) (kgV (kq q_1093 rfl) (kq q_1095 rfl) (kq q_18 rfl) (kq q_66 rfl) (kq q_1096 rfl)) yd_X10_begin ⟨Nat.le_of_ble_eq_true rfl, Nat.le_of_ble_eq_true rfl⟩ hN hK hP hD [0] rfl rfl (ci := 9) rfl rfl rfl rfl rfl hl.1 rfl (lv_room (Nat.le_of_ble_eq_true rfl)) dX10_moment_6) hP hD hS hA [0] rfl rfl (fun H locs hP hD hS => ?_)
  have hP : va_P (dC, dI) vwCl [cl_X10 h_this h_this_dayAt h_this_secondAt h_this_spans h_this_kept h_this_text h_this_row h_this_read h_this_many h_this_first h_this_lengths h_this_page i_this_67 j_this, (h_this_dayAt, .inl (cI, 8, .inl f_this_dayAt)), (h_this_secondAt, .inl (cI, 8, .inl f_this_secondAt)), (h_this_text, .inl (cB, 100, .inl f_this_text))] H := hP
  have hD : va_D A [cl_X10 h_this h_this_dayAt h_this_secondAt h_this_spans h_this_kept h_this_text h_this_row h_this_read h_this_many h_this_first h_this_lengths h_this_page i_this_67 j_this, (h_this_dayAt, .inl (cI, 8, .inl f_this_dayAt)), (h_this_secondAt, .inl (cI, 8, .inl f_this_secondAt)), (h_this_text, .inl (cB, 100, .inl f_this_text))] := hD
  refine lv_iconst (v := (0 : Int32)) hx hb dX10_moment_9 (by decide) ?_
  refine lv_istore_n (lv' := [(2, .int (0 : Int32)), (0, .ref h_this), (1, .int p1)]) hx hb dX10_moment_10 rfl hl (by decide) rfl (fun ls hl => ?_)
  refine lv_iconst (v := (0 : Int32)) hx hb dX10_moment_11 (by decide) ?_
  refine lv_istore_n (lv' := [(3, .int (0 : Int32)), (2, .int (0 : Int32)), (0, .ref h_this), (1, .int p1)]) hx hb dX10_moment_12 rfl hl (by decide) rfl (fun ls hl => ?_)
  exact LP_13 N _ _ _ _ _ _ _ _ _ h (lv_sub hl [2, 3, 1, 0] rfl) hP hD hS
noncomputable def fX10_isDay (N : Nat) (p1 : Int64) : Option (Int32) := (bd1 (fX10_in N p1 (0 : Int64) (3652058 : Int64)) fun r1 => (gz r1 (some r1)))
set_option maxHeartbeats 4000000 in
set_option maxRecDepth 100000 in
theorem kX10_isDay (l : Launch) (N : Nat) (p1 : Int64) (r : Int32) (hf : fX10_isDay N p1 = some r) : SI l yX10_isDay (kws yX10_isDay cX10_isDay 2 (some .boolean)) (kR 1 25) [.long p1] r := by
  refine SI.of (cc := cX10_isDay) (maxL := 2) (by decide) (Nat.le_of_ble_eq_true rfl) (fun p e s m args below meth c Q ls KC hl hEnd => ?_)
  obtain ⟨hx, hb, hml, hown, hts⟩ := KC
  have hown : s.vm.findClass "DateSpansModel" = some m.cls := hown
  have hl : lv_has ls 2 [(0, .long p1)] := hl
  have h := hf
  unfold fX10_isDay at h
  refine lv_lload_n hx hb dX10_isDay_0 rfl (lv_at hl 0 rfl) ?_
  refine lv_lconst (v := (0 : Int64)) hx hb dX10_isDay_1 (by decide) ?_
  refine lv_ldc2 (v := (3652058 : Int64)) hx hb hown (hts _ (kq q_1151 rfl)) dX10_isDay_2 ?_
  obtain ⟨r1, hc2, h⟩ := bd1_at h
  refine kjSI (kS0 (own := "DateSpansModel") (As := [.long p1, .long (0 : Int64), .long (3652058 : Int64)]) (rest := []) ⟨hx, hb, hml, hown, hts⟩ (kX10_in l N p1 (0 : Int64) (3652058 : Int64) r1 hc2) (kgS (kq q_1086 rfl) (kq q_1087 rfl) (kq q_66 rfl) (kq q_1088 rfl)) yd_X10_in ⟨Nat.le_of_ble_eq_true rfl, Nat.le_of_ble_eq_true rfl⟩ rfl rfl hl.1 rfl (lv_room (Nat.le_of_ble_eq_true rfl)) dX10_isDay_5) ?_
  obtain ⟨hz3, h⟩ := gz_at h
  obtain rfl := pj1 h
  exact hEnd _ _ dX10_isDay_8 hz3
noncomputable def fX10_sets (N : Nat) (p1 : Int32) (p2 : Int32) (p3 : Int32) (i_this : Nat → Int32) (j_this : Nat → Int64) (f_this_dayAt : Nat → Int32) (f_this_secondAt : Nat → Int32) : Option (Int32 × (Nat → Int32) × (Nat → Int32) × (Nat → Int32)) := (bd1 (fX10_isSlot N p1) fun r1 => (if r1 = (0 : Int32) then (some ((-1 : Int32), (upd i_this 9 (0 : Int32)), f_this_dayAt, f_this_secondAt)) else (bd1 (fX10_isDay N p2.toInt64) fun r4 => (if r4 = (0 : Int32) then (some ((-1 : Int32), (upd i_this 9 (0 : Int32)), f_this_dayAt, f_this_secondAt)) else (bd1 (fX10_in N p3.toInt64 (0 : Int64) (86399 : Int64)) fun r7 => (if r7 = (0 : Int32) then (some ((-1 : Int32), (upd i_this 9 (0 : Int32)), f_this_dayAt, f_this_secondAt)) else (gi p1 8 (nm (f_this_dayAt p1.toNatClampNeg) fun z11 => (bd1 (fX10_stands N p2 p3 (upd i_this 9 (0 : Int32)) j_this) fun i_this_12 => (bd2 (fX10_comesTo N p1 i_this_12 j_this f_this_dayAt f_this_secondAt) fun f_this_dayAt_14 f_this_secondAt_15 => (some (z11, i_this_12, f_this_dayAt_14, f_this_secondAt_15))))))))))))
set_option maxHeartbeats 4000000 in
set_option maxRecDepth 100000 in
theorem kX10_sets (l : Launch) (dC : Nat → ClassId) (dI : Nat → Nat → Nat) (cI cJ cB : ClassId) (h_this h_this_dayAt h_this_secondAt h_this_spans h_this_kept h_this_text h_this_row h_this_read h_this_many h_this_first h_this_lengths h_this_page : Nat) (N : Nat) (p1 : Int32) (p2 : Int32) (p3 : Int32) (i_this : Nat → Int32) (j_this : Nat → Int64) (f_this_dayAt : Nat → Int32) (f_this_secondAt : Nat → Int32) (r : Int32) (o_i_this : Nat → Int32) (o_f_this_dayAt : Nat → Int32) (o_f_this_secondAt : Nat → Int32) (hf : fX10_sets N p1 p2 p3 i_this j_this f_this_dayAt f_this_secondAt = some (r, o_i_this, o_f_this_dayAt, o_f_this_secondAt)) : MI l yX10_sets (kws yX10_sets cX10_sets 5 (some .int)) (kR 2 46) (dC, dI) (kT cI cJ cB) [.ref h_this, .int p1, .int p2, .int p3] [cl_X10 h_this h_this_dayAt h_this_secondAt h_this_spans h_this_kept h_this_text h_this_row h_this_read h_this_many h_this_first h_this_lengths h_this_page i_this j_this, (h_this_dayAt, .inl (cI, 8, .inl f_this_dayAt)), (h_this_secondAt, .inl (cI, 8, .inl f_this_secondAt))] [cl_X10 h_this h_this_dayAt h_this_secondAt h_this_spans h_this_kept h_this_text h_this_row h_this_read h_this_many h_this_first h_this_lengths h_this_page o_i_this j_this, (h_this_dayAt, .inl (cI, 8, .inl o_f_this_dayAt)), (h_this_secondAt, .inl (cI, 8, .inl o_f_this_secondAt))] r := by
  refine MI.of (cc := cX10_sets) (maxL := 5) (by decide) (Nat.le_of_ble_eq_true rfl) (fun p e s m args below meth c A Q ls KC hN hK hP hD hA hl hEnd => ?_)
  obtain ⟨hx, hb, hml, hown, hts⟩ := KC
  have hown : s.vm.findClass "DateSpansModel" = some m.cls := hown
  have hl : lv_has ls 5 [(0, .ref h_this), (1, .int p1), (2, .int p2), (3, .int p3)] := hl
  have hS : va_S A s.heap s.heap [] := va_S.rf
  have h := hf
  unfold fX10_sets at h
  refine lv_aload_n hx hb dX10_sets_0 rfl (lv_at hl 0 rfl) ?_
  refine lv_iconst (v := (0 : Int32)) hx hb dX10_sets_1 (by decide) ?_
  refine va_put (D := (dC, dI)) (ci := 9) (v := .int (0 : Int32)) (ty := .int) (C := RX10) (T := TX10) (N := 29) hx hb hts inX10 tyX10 tyX10_ok nmX10 hown hK hP hD hS 0 rfl rfl 9 (by decide) (hts _ (kq q_995 rfl)) (fun _ h9 => h9) rfl (by decide +kernel) rfl rfl (Nat.le_of_ble_eq_true rfl) dX10_sets_2 (fun H locs hP hD hS => ?_)
  have hP : va_P (dC, dI) vwCl [(h_this, .inr (9, [.ref h_this_dayAt, .ref h_this_secondAt, .ref h_this_spans, .ref h_this_kept, .int (i_this 4), .ref h_this_text, .int (i_this 6), .ref h_this_row, .int (i_this 8), .int (0 : Int32), .int (i_this 10), .int (i_this 11), .int (i_this 12), .int (i_this 13), .int (i_this 14), .int (i_this 15), .int (i_this 16), .int (i_this 17), .int (i_this 18), .ref h_this_read, .long (j_this 20), .ref h_this_many, .ref h_this_first, .ref h_this_lengths, .int (i_this 24), .long (j_this 25), .long (j_this 26), .ref h_this_page, .int (i_this 28)])), (h_this_dayAt, .inl (cI, 8, .inl f_this_dayAt)), (h_this_secondAt, .inl (cI, 8, .inl f_this_secondAt))] H := hP
  have hD : va_D A [(h_this, .inr (9, [.ref h_this_dayAt, .ref h_this_secondAt, .ref h_this_spans, .ref h_this_kept, .int (i_this 4), .ref h_this_text, .int (i_this 6), .ref h_this_row, .int (i_this 8), .int (0 : Int32), .int (i_this 10), .int (i_this 11), .int (i_this 12), .int (i_this 13), .int (i_this 14), .int (i_this 15), .int (i_this 16), .int (i_this 17), .int (i_this 18), .ref h_this_read, .long (j_this 20), .ref h_this_many, .ref h_this_first, .ref h_this_lengths, .int (i_this 24), .long (j_this 25), .long (j_this 26), .ref h_this_page, .int (i_this 28)])), (h_this_dayAt, .inl (cI, 8, .inl f_this_dayAt)), (h_this_secondAt, .inl (cI, 8, .inl f_this_secondAt))] := hD
  refine lv_iload_n hx hb dX10_sets_5 rfl (lv_at hl 1 rfl) ?_
  have hP : va_P (dC, dI) vwCl [cl_X10 h_this h_this_dayAt h_this_secondAt h_this_spans h_this_kept h_this_text h_this_row h_this_read h_this_many h_this_first h_this_lengths h_this_page (upd i_this 9 (0 : Int32)) j_this, (h_this_dayAt, .inl (cI, 8, .inl f_this_dayAt)), (h_this_secondAt, .inl (cI, 8, .inl f_this_secondAt))] H := hP
  have hD : va_D A [cl_X10 h_this h_this_dayAt h_this_secondAt h_this_spans h_this_kept h_this_text h_this_row h_this_read h_this_many h_this_first h_this_lengths h_this_page (upd i_this 9 (0 : Int32)) j_this, (h_this_dayAt, .inl (cI, 8, .inl f_this_dayAt)), (h_this_secondAt, .inl (cI, 8, .inl f_this_secondAt))] := hD
  obtain ⟨r1, hc2, h⟩ := bd1_at h
  refine kjSI (kS0 (own := "DateSpansModel") (As := [.int p1]) (rest := []) ⟨hx, hb, hml, hown, hts⟩ (kX10_isSlot l N p1 r1 hc2) (kgS (kq q_1123 rfl) (kq q_1124 rfl) (kq q_66 rfl) (kq q_1125 rfl)) yd_X10_isSlot ⟨Nat.le_of_ble_eq_true rfl, Nat.le_of_ble_eq_true rfl⟩ rfl rfl hl.1 rfl (lv_room (Nat.le_of_ble_eq_true rfl)) dX10_sets_6) ?_
  refine lv_if_eq (tgt := 32) hx hb dX10_sets_9 (by decide) (fun c3 => ?_) (fun c3 => ?_)
  · have h := ite_t c3 h
    refine lv_iconst (v := (-1 : Int32)) hx hb dX10_sets_32 (by decide) ?_
    obtain ⟨rfl, rfl, rfl, rfl⟩ := pj4 h
    exact hEnd _ _ _ _ hP hS dX10_sets_33 rfl
  have h := ite_f c3 h
  refine lv_iload_n hx hb dX10_sets_12 rfl (lv_at hl 2 rfl) ?_
  refine lv_i2l hx hb dX10_sets_13 rfl ?_
  obtain ⟨r4, hc5, h⟩ := bd1_at h
  refine kjSI (kS0 (own := "DateSpansModel") (As := [.long p2.toInt64]) (rest := []) ⟨hx, hb, hml, hown, hts⟩ (kX10_isDay l N p2.toInt64 r4 hc5) (kgS (kq q_1148 rfl) (kq q_1149 rfl) (kq q_66 rfl) (kq q_1150 rfl)) yd_X10_isDay ⟨Nat.le_of_ble_eq_true rfl, Nat.le_of_ble_eq_true rfl⟩ rfl rfl hl.1 rfl (lv_room (Nat.le_of_ble_eq_true rfl)) dX10_sets_14) ?_
  refine lv_if_eq (tgt := 32) hx hb dX10_sets_17 (by decide) (fun c6 => ?_) (fun c6 => ?_)
  · have h := ite_t c6 h
    refine lv_iconst (v := (-1 : Int32)) hx hb dX10_sets_32 (by decide) ?_
    obtain ⟨rfl, rfl, rfl, rfl⟩ := pj4 h
    exact hEnd _ _ _ _ hP hS dX10_sets_33 rfl
  have h := ite_f c6 h
  refine lv_iload_n hx hb dX10_sets_20 rfl (lv_at hl 3 rfl) ?_
  refine lv_i2l hx hb dX10_sets_21 rfl ?_
  refine lv_lconst (v := (0 : Int64)) hx hb dX10_sets_22 (by decide) ?_
  refine lv_ldc2 (v := (86399 : Int64)) hx hb hown (hts _ (kq q_1152 rfl)) dX10_sets_23 ?_
  obtain ⟨r7, hc8, h⟩ := bd1_at h
  refine kjSI (kS0 (own := "DateSpansModel") (As := [.long p3.toInt64, .long (0 : Int64), .long (86399 : Int64)]) (rest := []) ⟨hx, hb, hml, hown, hts⟩ (kX10_in l N p3.toInt64 (0 : Int64) (86399 : Int64) r7 hc8) (kgS (kq q_1086 rfl) (kq q_1087 rfl) (kq q_66 rfl) (kq q_1088 rfl)) yd_X10_in ⟨Nat.le_of_ble_eq_true rfl, Nat.le_of_ble_eq_true rfl⟩ rfl rfl hl.1 rfl (lv_room (Nat.le_of_ble_eq_true rfl)) dX10_sets_26) ?_
  refine lv_if_ne (tgt := 34) hx hb dX10_sets_29 (by decide) (fun c9 => ?_) (fun c9 => ?_)
  · have h := ite_f c9 h
    refine lv_aload_n hx hb dX10_sets_34 rfl (lv_at hl 0 rfl) ?_
    refine va_get (D := (dC, dI)) (ci := 9) (v := .ref h_this_dayAt) (C := RX10) (T := TX10) (N := 29) hx hb hts inX10 hown hK hP 0 rfl rfl 0 (by decide) (hts _ (kq q_986 rfl)) (fun _ h9 => h9) rfl dX10_sets_35 ?_
    refine lv_iload_n hx hb dX10_sets_38 rfl (lv_at hl 1 rfl) ?_
    obtain ⟨hi10, h⟩ := gi_at h
    refine va_iald hx hb hK hP 1 0 rfl rfl hi10 dX10_sets_39 ?_
    refine lv_topi (fun z11 ez11 => ?_)
    have h := nm_at ez11 h
    refine lv_istore (lv' := [(4, .int z11), (0, .ref h_this), (1, .int p1), (2, .int p2), (3, .int p3)]) hx hb dX10_sets_40 hl (by decide) rfl (fun ls hl => ?_)
    refine lv_aload_n hx hb dX10_sets_42 rfl (lv_at hl 1 rfl) ?_
    refine lv_iload_n hx hb dX10_sets_43 rfl (lv_at hl 3 rfl) ?_
    refine lv_iload_n hx hb dX10_sets_44 rfl (lv_at hl 4 rfl) ?_
    obtain ⟨i_this_12, hc13, h⟩ := bd1_at h
    refine kjV (kV (own := "DateSpansModel") (C := "DateSpansModel") (b := h_this) (As := [.int p2, .int p3]) (rest := []) ⟨hx, hb, hml, hown, hts⟩ (kX10_stands l dC dI cI cJ cB h_this h_this_dayAt h_this_secondAt h_this_spans h_this_kept h_this_text h_this_row h_this_read h_this_many h_this_first h_this_lengths h_this_page N p2 p3 (upd i_this 9 (0 : Int32)) j_this i_this_12 hc13 _) (kgV (kq q_1136 rfl) (kq q_1138 rfl) (kq q_24 rfl) (kq q_66 rfl) (kq q_1139 rfl)) yd_X10_stands ⟨Nat.le_of_ble_eq_true rfl, Nat.le_of_ble_eq_true rfl⟩ hN hK hP hD [0] rfl rfl (ci := 9) rfl rfl rfl rfl rfl hl.1 rfl (lv_room (Nat.le_of_ble_eq_true rfl)) dX10_sets_45) hP hD hS hA [0] rfl rfl (fun H locs hP hD hS => ?_)
    have hP : va_P (dC, dI) vwCl [cl_X10 h_this h_this_dayAt h_this_secondAt h_this_spans h_this_kept h_this_text h_this_row h_this_read h_this_many h_this_first h_this_lengths h_this_page i_this_12 j_this, (h_this_dayAt, .inl (cI, 8, .inl f_this_dayAt)), (h_this_secondAt, .inl (cI, 8, .inl f_this_secondAt))] H := hP
    have hD : va_D A [cl_X10 h_this h_this_dayAt h_this_secondAt h_this_spans h_this_kept h_this_text h_this_row h_this_read h_this_many h_this_first h_this_lengths h_this_page i_this_12 j_this, (h_this_dayAt, .inl (cI, 8, .inl f_this_dayAt)), (h_this_secondAt, .inl (cI, 8, .inl f_this_secondAt))] := hD
    refine lv_aload_n hx hb dX10_sets_48 rfl (lv_at hl 1 rfl) ?_
    refine lv_iload_n hx hb dX10_sets_49 rfl (lv_at hl 2 rfl) ?_
    obtain ⟨f_this_dayAt_14, f_this_secondAt_15, hc16, h⟩ := bd2_at h
    refine kjV (kV (own := "DateSpansModel") (C := "DateSpansModel") (b := h_this) (As := [.int p1]) (rest := []) ⟨hx, hb, hml, hown, hts⟩ (kX10_comesTo l dC dI cI cJ cB h_this h_this_dayAt h_this_secondAt h_this_spans h_this_kept h_this_text h_this_row h_this_read h_this_many h_this_first h_this_lengths h_this_page N p1 i_this_12 j_this f_this_dayAt f_this_secondAt f_this_dayAt_14 f_this_secondAt_15 hc16 _) (kgV (kq q_1140 rfl) (kq q_1142 rfl) (kq q_25 rfl) (kq q_66 rfl) (kq q_1143 rfl)) yd_X10_comesTo ⟨Nat.le_of_ble_eq_true rfl, Nat.le_of_ble_eq_true rfl⟩ hN hK hP hD [0, 1, 2] rfl rfl (ci := 9) rfl rfl rfl rfl rfl hl.1 rfl (lv_room (Nat.le_of_ble_eq_true rfl)) dX10_sets_50) hP hD hS hA [0, 1, 2] rfl rfl (fun H locs hP hD hS => ?_)
    have hP : va_P (dC, dI) vwCl [cl_X10 h_this h_this_dayAt h_this_secondAt h_this_spans h_this_kept h_this_text h_this_row h_this_read h_this_many h_this_first h_this_lengths h_this_page i_this_12 j_this, (h_this_dayAt, .inl (cI, 8, .inl f_this_dayAt_14)), (h_this_secondAt, .inl (cI, 8, .inl f_this_secondAt_15))] H := hP
    have hD : va_D A [cl_X10 h_this h_this_dayAt h_this_secondAt h_this_spans h_this_kept h_this_text h_this_row h_this_read h_this_many h_this_first h_this_lengths h_this_page i_this_12 j_this, (h_this_dayAt, .inl (cI, 8, .inl f_this_dayAt_14)), (h_this_secondAt, .inl (cI, 8, .inl f_this_secondAt_15))] := hD
    refine lv_iload hx hb dX10_sets_53 (lv_at hl 0 rfl) ?_
    obtain ⟨rfl, rfl, rfl, rfl⟩ := pj4 h
    exact hEnd _ _ _ _ hP hS dX10_sets_55 rfl
  have h := ite_t c9 h
  refine lv_iconst (v := (-1 : Int32)) hx hb dX10_sets_32 (by decide) ?_
  obtain ⟨rfl, rfl, rfl, rfl⟩ := pj4 h
  exact hEnd _ _ _ _ hP hS dX10_sets_33 rfl
noncomputable def fX10_partOf (N : Nat) (p1 : Int32) : Option (Int32) := (if (2 : Int32) ≤ p1 then (if (4 : Int32) ≤ p1 then (some (2 : Int32)) else (some (1 : Int32))) else (some (0 : Int32)))
set_option maxHeartbeats 4000000 in
set_option maxRecDepth 100000 in
theorem kX10_partOf (l : Launch) (N : Nat) (p1 : Int32) (r : Int32) (hf : fX10_partOf N p1 = some r) : SI l yX10_partOf (kws yX10_partOf cX10_partOf 1 (some .int)) (kR 0 0) [.int p1] r := by
  refine SI.of (cc := cX10_partOf) (maxL := 1) (by decide) (Nat.le_of_ble_eq_true rfl) (fun p e s m args below meth c Q ls KC hl hEnd => ?_)
  obtain ⟨hx, hb, hml, hown, hts⟩ := KC
  have hown : s.vm.findClass "DateSpansModel" = some m.cls := hown
  have hl : lv_has ls 1 [(0, .int p1)] := hl
  have h := hf
  unfold fX10_partOf at h
  refine lv_iload_n hx hb dX10_partOf_0 rfl (lv_at hl 0 rfl) ?_
  refine lv_iconst (v := (2 : Int32)) hx hb dX10_partOf_1 (by decide) ?_
  refine lv_icmp_ge (tgt := 9) hx hb dX10_partOf_2 (by decide) (fun c1 => ?_) (fun c1 => ?_)
  · have h := ite_t c1 h
    refine lv_iload_n hx hb dX10_partOf_9 rfl (lv_at hl 0 rfl) ?_
    refine lv_iconst (v := (4 : Int32)) hx hb dX10_partOf_10 (by decide) ?_
    refine lv_icmp_ge (tgt := 18) hx hb dX10_partOf_11 (by decide) (fun c2 => ?_) (fun c2 => ?_)
    · have h := ite_t c2 h
      refine lv_iconst (v := (2 : Int32)) hx hb dX10_partOf_18 (by decide) ?_
      obtain rfl := pj1 h
      exact hEnd _ _ dX10_partOf_19 rfl
    have h := ite_f c2 h
    refine lv_iconst (v := (1 : Int32)) hx hb dX10_partOf_14 (by decide) ?_
    refine lv_goto (tgt := 19) hx hb dX10_partOf_15 (by decide) ?_
    obtain rfl := pj1 h
    exact hEnd _ _ dX10_partOf_19 rfl
  have h := ite_f c1 h
  refine lv_iconst (v := (0 : Int32)) hx hb dX10_partOf_5 (by decide) ?_
  refine lv_goto (tgt := 19) hx hb dX10_partOf_6 (by decide) ?_
  obtain rfl := pj1 h
  exact hEnd _ _ dX10_partOf_19 rfl
noncomputable def fX10_counts (N : Nat) (p1 : Int32) : Option (Int32) := (if p1 = (0 : Int32) then (some (12 : Int32)) else (if p1 = (1 : Int32) then (some (1 : Int32)) else (if p1 = (2 : Int32) then (some (7 : Int32)) else (if p1 = (3 : Int32) then (some (1 : Int32)) else (if p1 = (4 : Int32) then (some (3600 : Int32)) else (if p1 = (5 : Int32) then (some (60 : Int32)) else (some (1 : Int32))))))))
set_option maxHeartbeats 4000000 in
set_option maxRecDepth 100000 in
theorem kX10_counts (l : Launch) (N : Nat) (p1 : Int32) (r : Int32) (hf : fX10_counts N p1 = some r) : SI l yX10_counts (kws yX10_counts cX10_counts 1 (some .int)) (kR 0 0) [.int p1] r := by
  refine SI.of (cc := cX10_counts) (maxL := 1) (by decide) (Nat.le_of_ble_eq_true rfl) (fun p e s m args below meth c Q ls KC hl hEnd => ?_)
  obtain ⟨hx, hb, hml, hown, hts⟩ := KC
  have hown : s.vm.findClass "DateSpansModel" = some m.cls := hown
  have hl : lv_has ls 1 [(0, .int p1)] := hl
  have h := hf
  unfold fX10_counts at h
  refine lv_iload_n hx hb dX10_counts_0 rfl (lv_at hl 0 rfl) ?_
  by_cases c1 : p1 = (0 : Int32)
  · have h := ite_t c1 h
    refine lv_tableIn (x := p1) (tgt := 40) hx hb dX10_counts_1 (by rw [c1]; decide) (by rw [c1]; decide) (by rw [c1]; rfl) (by decide) ?_
    refine lv_bipush (v := (12 : Int32)) hx hb dX10_counts_40 (by decide) ?_
    obtain rfl := pj1 h
    exact hEnd _ _ dX10_counts_42 rfl
  have h := ite_f c1 h
  by_cases c2 : p1 = (1 : Int32)
  · have h := ite_t c2 h
    refine lv_tableIn (x := p1) (tgt := 53) hx hb dX10_counts_1 (by rw [c2]; decide) (by rw [c2]; decide) (by rw [c2]; rfl) (by decide) ?_
    refine lv_iconst (v := (1 : Int32)) hx hb dX10_counts_53 (by decide) ?_
    obtain rfl := pj1 h
    exact hEnd _ _ dX10_counts_54 rfl
  have h := ite_f c2 h
  by_cases c3 : p1 = (2 : Int32)
  · have h := ite_t c3 h
    refine lv_tableIn (x := p1) (tgt := 43) hx hb dX10_counts_1 (by rw [c3]; decide) (by rw [c3]; decide) (by rw [c3]; rfl) (by decide) ?_
    refine lv_bipush (v := (7 : Int32)) hx hb dX10_counts_43 (by decide) ?_
    obtain rfl := pj1 h
    exact hEnd _ _ dX10_counts_45 rfl
  have h := ite_f c3 h
  by_cases c4 : p1 = (3 : Int32)
  · have h := ite_t c4 h
    refine lv_tableIn (x := p1) (tgt := 53) hx hb dX10_counts_1 (by rw [c4]; decide) (by rw [c4]; decide) (by rw [c4]; rfl) (by decide) ?_
    refine lv_iconst (v := (1 : Int32)) hx hb dX10_counts_53 (by decide) ?_
    obtain rfl := pj1 h
    exact hEnd _ _ dX10_counts_54 rfl
  have h := ite_f c4 h
  by_cases c5 : p1 = (4 : Int32)
  · have h := ite_t c5 h
    refine lv_tableIn (x := p1) (tgt := 46) hx hb dX10_counts_1 (by rw [c5]; decide) (by rw [c5]; decide) (by rw [c5]; rfl) (by decide) ?_
    refine lv_sipush (v := (3600 : Int32)) hx hb dX10_counts_46 (by decide) ?_
    obtain rfl := pj1 h
    exact hEnd _ _ dX10_counts_49 rfl
  have h := ite_f c5 h
  by_cases c6 : p1 = (5 : Int32)
  · have h := ite_t c6 h
    refine lv_tableIn (x := p1) (tgt := 50) hx hb dX10_counts_1 (by rw [c6]; decide) (by rw [c6]; decide) (by rw [c6]; rfl) (by decide) ?_
    refine lv_bipush (v := (60 : Int32)) hx hb dX10_counts_50 (by decide) ?_
    obtain rfl := pj1 h
    exact hEnd _ _ dX10_counts_52 rfl
  have h := ite_f c6 h
  have gc1 := kne (k := 0) (by decide) c1
  have gc2 := kne (k := 1) (by decide) c2
  have gc3 := kne (k := 2) (by decide) c3
  have gc4 := kne (k := 3) (by decide) c4
  have gc5 := kne (k := 4) (by decide) c5
  have gc6 := kne (k := 5) (by decide) c6
  refine lv_tableOut (x := p1) (tgt := 53) hx hb dX10_counts_1 (by omega) (by decide) ?_
  refine lv_iconst (v := (1 : Int32)) hx hb dX10_counts_53 (by decide) ?_
  obtain rfl := pj1 h
  exact hEnd _ _ dX10_counts_54 rfl
noncomputable def fX10_laysSpan (N : Nat) (p1 : Int32) (p2 : Int64) (p3 : Int64) (p4 : Int64) (i_this : Nat → Int32) (j_this : Nat → Int64) (f_this_spans : Nat → Int32) : Option ((Nat → Int32)) := (gi ((3 : Int32) * p1) 24 (gi (((3 : Int32) * p1) + (1 : Int32)) 24 (gi (((3 : Int32) * p1) + (2 : Int32)) 24 (some (upd (upd (upd f_this_spans ((3 : Int32) * p1).toNatClampNeg p2.toInt32) (((3 : Int32) * p1) + (1 : Int32)).toNatClampNeg p3.toInt32) (((3 : Int32) * p1) + (2 : Int32)).toNatClampNeg p4.toInt32)))))
set_option maxHeartbeats 4000000 in
set_option maxRecDepth 100000 in
theorem kX10_laysSpan (l : Launch) (dC : Nat → ClassId) (dI : Nat → Nat → Nat) (cI cJ cB : ClassId) (h_this h_this_dayAt h_this_secondAt h_this_spans h_this_kept h_this_text h_this_row h_this_read h_this_many h_this_first h_this_lengths h_this_page : Nat) (N : Nat) (p1 : Int32) (p2 : Int64) (p3 : Int64) (p4 : Int64) (i_this : Nat → Int32) (j_this : Nat → Int64) (f_this_spans : Nat → Int32) (o_f_this_spans : Nat → Int32) (hf : fX10_laysSpan N p1 p2 p3 p4 i_this j_this f_this_spans = some o_f_this_spans) : MV l yX10_laysSpan (kws yX10_laysSpan cX10_laysSpan 8 (none)) (kR 0 0) (dC, dI) (kT cI cJ cB) [.ref h_this, .int p1, .long p2, .long p3, .long p4] [cl_X10 h_this h_this_dayAt h_this_secondAt h_this_spans h_this_kept h_this_text h_this_row h_this_read h_this_many h_this_first h_this_lengths h_this_page i_this j_this, (h_this_spans, .inl (cI, 24, .inl f_this_spans))] [cl_X10 h_this h_this_dayAt h_this_secondAt h_this_spans h_this_kept h_this_text h_this_row h_this_read h_this_many h_this_first h_this_lengths h_this_page i_this j_this, (h_this_spans, .inl (cI, 24, .inl o_f_this_spans))] := by
  refine MV.of (cc := cX10_laysSpan) (maxL := 8) (by decide) (Nat.le_of_ble_eq_true rfl) (fun p e s m args below meth c A Q ls KC hN hK hP hD hA hl hEnd => ?_)
  obtain ⟨hx, hb, hml, hown, hts⟩ := KC
  have hown : s.vm.findClass "DateSpansModel" = some m.cls := hown
  have hl : lv_has ls 8 [(0, .ref h_this), (1, .int p1), (2, .long p2), (4, .long p3), (6, .long p4)] := hl
  have hS : va_S A s.heap s.heap [] := va_S.rf
  have h := hf
  unfold fX10_laysSpan at h
  refine lv_aload_n hx hb dX10_laysSpan_0 rfl (lv_at hl 0 rfl) ?_
  refine va_get (D := (dC, dI)) (ci := 9) (v := .ref h_this_spans) (C := RX10) (T := TX10) (N := 29) hx hb hts inX10 hown hK hP 0 rfl rfl 2 (by decide) (hts _ (kq q_988 rfl)) (fun _ h9 => h9) rfl dX10_laysSpan_1 ?_
  refine lv_iconst (v := (3 : Int32)) hx hb dX10_laysSpan_4 (by decide) ?_
  refine lv_iload_n hx hb dX10_laysSpan_5 rfl (lv_at hl 1 rfl) ?_
  refine lv_imul hx hb dX10_laysSpan_6 ?_
  refine lv_lload_n hx hb dX10_laysSpan_7 rfl (lv_at hl 2 rfl) ?_
  refine lv_l2i hx hb dX10_laysSpan_8 rfl ?_
  obtain ⟨hi1, h⟩ := gi_at h
  refine va_iast hx hb hK hP hD hS 1 0 rfl rfl hi1 dX10_laysSpan_9 (fun H locs hP hD hS => ?_)
  have hP : va_P (dC, dI) vwCl [cl_X10 h_this h_this_dayAt h_this_secondAt h_this_spans h_this_kept h_this_text h_this_row h_this_read h_this_many h_this_first h_this_lengths h_this_page i_this j_this, (h_this_spans, .inl (cI, 24, .inl (upd f_this_spans ((3 : Int32) * p1).toNatClampNeg p2.toInt32)))] H := hP
  have hD : va_D A [cl_X10 h_this h_this_dayAt h_this_secondAt h_this_spans h_this_kept h_this_text h_this_row h_this_read h_this_many h_this_first h_this_lengths h_this_page i_this j_this, (h_this_spans, .inl (cI, 24, .inl (upd f_this_spans ((3 : Int32) * p1).toNatClampNeg p2.toInt32)))] := hD
  refine lv_aload_n hx hb dX10_laysSpan_10 rfl (lv_at hl 0 rfl) ?_
  refine va_get (D := (dC, dI)) (ci := 9) (v := .ref h_this_spans) (C := RX10) (T := TX10) (N := 29) hx hb hts inX10 hown hK hP 0 rfl rfl 2 (by decide) (hts _ (kq q_988 rfl)) (fun _ h9 => h9) rfl dX10_laysSpan_11 ?_
  refine lv_iconst (v := (3 : Int32)) hx hb dX10_laysSpan_14 (by decide) ?_
  refine lv_iload_n hx hb dX10_laysSpan_15 rfl (lv_at hl 1 rfl) ?_
  refine lv_imul hx hb dX10_laysSpan_16 ?_
  refine lv_iconst (v := (1 : Int32)) hx hb dX10_laysSpan_17 (by decide) ?_
  refine lv_iadd hx hb dX10_laysSpan_18 ?_
  refine lv_lload hx hb dX10_laysSpan_19 (lv_at hl 3 rfl) ?_
  refine lv_l2i hx hb dX10_laysSpan_21 rfl ?_
  obtain ⟨hi2, h⟩ := gi_at h
  refine va_iast hx hb hK hP hD hS 1 0 rfl rfl hi2 dX10_laysSpan_22 (fun H locs hP hD hS => ?_)
  have hP : va_P (dC, dI) vwCl [cl_X10 h_this h_this_dayAt h_this_secondAt h_this_spans h_this_kept h_this_text h_this_row h_this_read h_this_many h_this_first h_this_lengths h_this_page i_this j_this, (h_this_spans, .inl (cI, 24, .inl (upd (upd f_this_spans ((3 : Int32) * p1).toNatClampNeg p2.toInt32) (((3 : Int32) * p1) + (1 : Int32)).toNatClampNeg p3.toInt32)))] H := hP
  have hD : va_D A [cl_X10 h_this h_this_dayAt h_this_secondAt h_this_spans h_this_kept h_this_text h_this_row h_this_read h_this_many h_this_first h_this_lengths h_this_page i_this j_this, (h_this_spans, .inl (cI, 24, .inl (upd (upd f_this_spans ((3 : Int32) * p1).toNatClampNeg p2.toInt32) (((3 : Int32) * p1) + (1 : Int32)).toNatClampNeg p3.toInt32)))] := hD
  refine lv_aload_n hx hb dX10_laysSpan_23 rfl (lv_at hl 0 rfl) ?_
  refine va_get (D := (dC, dI)) (ci := 9) (v := .ref h_this_spans) (C := RX10) (T := TX10) (N := 29) hx hb hts inX10 hown hK hP 0 rfl rfl 2 (by decide) (hts _ (kq q_988 rfl)) (fun _ h9 => h9) rfl dX10_laysSpan_24 ?_
  refine lv_iconst (v := (3 : Int32)) hx hb dX10_laysSpan_27 (by decide) ?_
  refine lv_iload_n hx hb dX10_laysSpan_28 rfl (lv_at hl 1 rfl) ?_
  refine lv_imul hx hb dX10_laysSpan_29 ?_
  refine lv_iconst (v := (2 : Int32)) hx hb dX10_laysSpan_30 (by decide) ?_
  refine lv_iadd hx hb dX10_laysSpan_31 ?_
  refine lv_lload hx hb dX10_laysSpan_32 (lv_at hl 4 rfl) ?_
  refine lv_l2i hx hb dX10_laysSpan_34 rfl ?_
  obtain ⟨hi3, h⟩ := gi_at h
  refine va_iast hx hb hK hP hD hS 1 0 rfl rfl hi3 dX10_laysSpan_35 (fun H locs hP hD hS => ?_)
  have hP : va_P (dC, dI) vwCl [cl_X10 h_this h_this_dayAt h_this_secondAt h_this_spans h_this_kept h_this_text h_this_row h_this_read h_this_many h_this_first h_this_lengths h_this_page i_this j_this, (h_this_spans, .inl (cI, 24, .inl (upd (upd (upd f_this_spans ((3 : Int32) * p1).toNatClampNeg p2.toInt32) (((3 : Int32) * p1) + (1 : Int32)).toNatClampNeg p3.toInt32) (((3 : Int32) * p1) + (2 : Int32)).toNatClampNeg p4.toInt32)))] H := hP
  have hD : va_D A [cl_X10 h_this h_this_dayAt h_this_secondAt h_this_spans h_this_kept h_this_text h_this_row h_this_read h_this_many h_this_first h_this_lengths h_this_page i_this j_this, (h_this_spans, .inl (cI, 24, .inl (upd (upd (upd f_this_spans ((3 : Int32) * p1).toNatClampNeg p2.toInt32) (((3 : Int32) * p1) + (1 : Int32)).toNatClampNeg p3.toInt32) (((3 : Int32) * p1) + (2 : Int32)).toNatClampNeg p4.toInt32)))] := hD
  obtain rfl := pj1 h
  exact hEnd _ _ _ _ hP hS dX10_laysSpan_36
noncomputable def fX10_tell (N : Nat) (p1 : Int64) (i_this : Nat → Int32) (j_this : Nat → Int64) (f_this_row : Nat → Int64) : Option ((Nat → Int32) × (Nat → Int64)) := (gi (i_this 8) 16 (some ((upd i_this 8 ((i_this 8) + (1 : Int32))), (vp_updL f_this_row (i_this 8).toNatClampNeg p1))))
set_option maxHeartbeats 4000000 in
set_option maxRecDepth 100000 in
theorem kX10_tell (l : Launch) (dC : Nat → ClassId) (dI : Nat → Nat → Nat) (cI cJ cB : ClassId) (h_this h_this_dayAt h_this_secondAt h_this_spans h_this_kept h_this_text h_this_row h_this_read h_this_many h_this_first h_this_lengths h_this_page : Nat) (N : Nat) (p1 : Int64) (i_this : Nat → Int32) (j_this : Nat → Int64) (f_this_row : Nat → Int64) (o_i_this : Nat → Int32) (o_f_this_row : Nat → Int64) (hf : fX10_tell N p1 i_this j_this f_this_row = some (o_i_this, o_f_this_row)) : MV l yX10_tell (kws yX10_tell cX10_tell 3 (none)) (kR 0 0) (dC, dI) (kT cI cJ cB) [.ref h_this, .long p1] [cl_X10 h_this h_this_dayAt h_this_secondAt h_this_spans h_this_kept h_this_text h_this_row h_this_read h_this_many h_this_first h_this_lengths h_this_page i_this j_this, (h_this_row, .inl (cJ, 16, .inr (.inl f_this_row)))] [cl_X10 h_this h_this_dayAt h_this_secondAt h_this_spans h_this_kept h_this_text h_this_row h_this_read h_this_many h_this_first h_this_lengths h_this_page o_i_this j_this, (h_this_row, .inl (cJ, 16, .inr (.inl o_f_this_row)))] := by
  refine MV.of (cc := cX10_tell) (maxL := 3) (by decide) (Nat.le_of_ble_eq_true rfl) (fun p e s m args below meth c A Q ls KC hN hK hP hD hA hl hEnd => ?_)
  obtain ⟨hx, hb, hml, hown, hts⟩ := KC
  have hown : s.vm.findClass "DateSpansModel" = some m.cls := hown
  have hl : lv_has ls 3 [(0, .ref h_this), (1, .long p1)] := hl
  have hS : va_S A s.heap s.heap [] := va_S.rf
  have h := hf
  unfold fX10_tell at h
  refine lv_aload_n hx hb dX10_tell_0 rfl (lv_at hl 0 rfl) ?_
  refine va_get (D := (dC, dI)) (ci := 9) (v := .ref h_this_row) (C := RX10) (T := TX10) (N := 29) hx hb hts inX10 hown hK hP 0 rfl rfl 7 (by decide) (hts _ (kq q_993 rfl)) (fun _ h9 => h9) rfl dX10_tell_1 ?_
  refine lv_aload_n hx hb dX10_tell_4 rfl (lv_at hl 0 rfl) ?_
  refine va_get (D := (dC, dI)) (ci := 9) (v := .int (i_this 8)) (C := RX10) (T := TX10) (N := 29) hx hb hts inX10 hown hK hP 0 rfl rfl 8 (by decide) (hts _ (kq q_994 rfl)) (fun _ h9 => h9) rfl dX10_tell_5 ?_
  refine lv_lload_n hx hb dX10_tell_8 rfl (lv_at hl 1 rfl) ?_
  obtain ⟨hi1, h⟩ := gi_at h
  refine va_last hx hb hK hP hD hS 1 1 rfl rfl hi1 dX10_tell_9 (fun H locs hP hD hS => ?_)
  have hP : va_P (dC, dI) vwCl [cl_X10 h_this h_this_dayAt h_this_secondAt h_this_spans h_this_kept h_this_text h_this_row h_this_read h_this_many h_this_first h_this_lengths h_this_page i_this j_this, (h_this_row, .inl (cJ, 16, .inr (.inl (vp_updL f_this_row (i_this 8).toNatClampNeg p1))))] H := hP
  have hD : va_D A [cl_X10 h_this h_this_dayAt h_this_secondAt h_this_spans h_this_kept h_this_text h_this_row h_this_read h_this_many h_this_first h_this_lengths h_this_page i_this j_this, (h_this_row, .inl (cJ, 16, .inr (.inl (vp_updL f_this_row (i_this 8).toNatClampNeg p1))))] := hD
  refine lv_aload_n hx hb dX10_tell_10 rfl (lv_at hl 0 rfl) ?_
  refine lv_dup hx hb dX10_tell_11 rfl ?_
  refine va_get (D := (dC, dI)) (ci := 9) (v := .int (i_this 8)) (C := RX10) (T := TX10) (N := 29) hx hb hts inX10 hown hK hP 0 rfl rfl 8 (by decide) (hts _ (kq q_994 rfl)) (fun _ h9 => h9) rfl dX10_tell_12 ?_
  refine lv_iconst (v := (1 : Int32)) hx hb dX10_tell_15 (by decide) ?_
  refine lv_iadd hx hb dX10_tell_16 ?_
  refine va_put (D := (dC, dI)) (ci := 9) (v := .int ((i_this 8) + (1 : Int32))) (ty := .int) (C := RX10) (T := TX10) (N := 29) hx hb hts inX10 tyX10 tyX10_ok nmX10 hown hK hP hD hS 0 rfl rfl 8 (by decide) (hts _ (kq q_994 rfl)) (fun _ h9 => h9) rfl (by decide +kernel) rfl rfl (Nat.le_of_ble_eq_true rfl) dX10_tell_17 (fun H locs hP hD hS => ?_)
  have hP : va_P (dC, dI) vwCl [(h_this, .inr (9, [.ref h_this_dayAt, .ref h_this_secondAt, .ref h_this_spans, .ref h_this_kept, .int (i_this 4), .ref h_this_text, .int (i_this 6), .ref h_this_row, .int ((i_this 8) + (1 : Int32)), .int (i_this 9), .int (i_this 10), .int (i_this 11), .int (i_this 12), .int (i_this 13), .int (i_this 14), .int (i_this 15), .int (i_this 16), .int (i_this 17), .int (i_this 18), .ref h_this_read, .long (j_this 20), .ref h_this_many, .ref h_this_first, .ref h_this_lengths, .int (i_this 24), .long (j_this 25), .long (j_this 26), .ref h_this_page, .int (i_this 28)])), (h_this_row, .inl (cJ, 16, .inr (.inl (vp_updL f_this_row (i_this 8).toNatClampNeg p1))))] H := hP
  have hD : va_D A [(h_this, .inr (9, [.ref h_this_dayAt, .ref h_this_secondAt, .ref h_this_spans, .ref h_this_kept, .int (i_this 4), .ref h_this_text, .int (i_this 6), .ref h_this_row, .int ((i_this 8) + (1 : Int32)), .int (i_this 9), .int (i_this 10), .int (i_this 11), .int (i_this 12), .int (i_this 13), .int (i_this 14), .int (i_this 15), .int (i_this 16), .int (i_this 17), .int (i_this 18), .ref h_this_read, .long (j_this 20), .ref h_this_many, .ref h_this_first, .ref h_this_lengths, .int (i_this 24), .long (j_this 25), .long (j_this 26), .ref h_this_page, .int (i_this 28)])), (h_this_row, .inl (cJ, 16, .inr (.inl (vp_updL f_this_row (i_this 8).toNatClampNeg p1))))] := hD
  have hP : va_P (dC, dI) vwCl [cl_X10 h_this h_this_dayAt h_this_secondAt h_this_spans h_this_kept h_this_text h_this_row h_this_read h_this_many h_this_first h_this_lengths h_this_page (upd i_this 8 ((i_this 8) + (1 : Int32))) j_this, (h_this_row, .inl (cJ, 16, .inr (.inl (vp_updL f_this_row (i_this 8).toNatClampNeg p1))))] H := hP
  have hD : va_D A [cl_X10 h_this h_this_dayAt h_this_secondAt h_this_spans h_this_kept h_this_text h_this_row h_this_read h_this_many h_this_first h_this_lengths h_this_page (upd i_this 8 ((i_this 8) + (1 : Int32))) j_this, (h_this_row, .inl (cJ, 16, .inr (.inl (vp_updL f_this_row (i_this 8).toNatClampNeg p1))))] := hD
  obtain ⟨rfl, rfl⟩ := pj2 h
  exact hEnd _ _ _ _ hP hS dX10_tell_20
noncomputable def fX10_tellsSpan_l7 (N : Nat) (j_this : Nat → Int64) (f_this_spans : Nat → Int32) (n : Nat) : Int32 → Int32 → (Nat → Int32) → (Nat → Int64) → Option ((Nat → Int32) × (Nat → Int64)) := Nat.rec (motive := fun _ => Int32 → Int32 → (Nat → Int32) → (Nat → Int64) → Option ((Nat → Int32) × (Nat → Int64))) (fun _ _ _ _ => none) (fun _ K_7 v1 v2 i_this f_this_row => (if (3 : Int32) ≤ v2 then (some (i_this, f_this_row)) else (gi (((3 : Int32) * v1) + v2) 24 (bd2 (fX10_tell N ((f_this_spans (((3 : Int32) * v1) + v2).toNatClampNeg).toInt64) i_this j_this f_this_row) fun i_this_3 f_this_row_4 => (nm (v2 + (1 : Int32)) fun z6 => (K_7 v1 z6 i_this_3 f_this_row_4)))))) n
theorem fX10_tellsSpan_l7_s (N : Nat) (j_this : Nat → Int64) (f_this_spans : Nat → Int32) (n : Nat) (v1 : Int32) (v2 : Int32) (i_this : Nat → Int32) (f_this_row : Nat → Int64) : fX10_tellsSpan_l7 N j_this f_this_spans (n + 1) v1 v2 i_this f_this_row = (if (3 : Int32) ≤ v2 then (some (i_this, f_this_row)) else (gi (((3 : Int32) * v1) + v2) 24 (bd2 (fX10_tell N ((f_this_spans (((3 : Int32) * v1) + v2).toNatClampNeg).toInt64) i_this j_this f_this_row) fun i_this_3 f_this_row_4 => (nm (v2 + (1 : Int32)) fun z6 => ((fX10_tellsSpan_l7 N j_this f_this_spans n) v1 z6 i_this_3 f_this_row_4))))) := rfl
theorem fX10_tellsSpan_l7_0 (N : Nat) (j_this : Nat → Int64) (f_this_spans : Nat → Int32) (v1 : Int32) (v2 : Int32) (i_this : Nat → Int32) (f_this_row : Nat → Int64) : fX10_tellsSpan_l7 N j_this f_this_spans 0 v1 v2 i_this f_this_row = none := rfl
noncomputable def fX10_tellsSpan (N : Nat) (p1 : Int32) (i_this : Nat → Int32) (j_this : Nat → Int64) (f_this_spans : Nat → Int32) (f_this_row : Nat → Int64) : Option ((Nat → Int32) × (Nat → Int64)) := (fX10_tellsSpan_l7 N j_this f_this_spans N p1 (0 : Int32) (upd i_this 8 (0 : Int32)) f_this_row)
set_option maxHeartbeats 4000000 in
set_option maxRecDepth 100000 in
theorem kX10_tellsSpan (l : Launch) (dC : Nat → ClassId) (dI : Nat → Nat → Nat) (cI cJ cB : ClassId) (h_this h_this_dayAt h_this_secondAt h_this_spans h_this_kept h_this_text h_this_row h_this_read h_this_many h_this_first h_this_lengths h_this_page : Nat) (N : Nat) (p1 : Int32) (i_this : Nat → Int32) (j_this : Nat → Int64) (f_this_spans : Nat → Int32) (f_this_row : Nat → Int64) (o_i_this : Nat → Int32) (o_f_this_row : Nat → Int64) (hf : fX10_tellsSpan N p1 i_this j_this f_this_spans f_this_row = some (o_i_this, o_f_this_row)) : MV l yX10_tellsSpan (kws yX10_tellsSpan cX10_tellsSpan 3 (none)) (kR 1 22) (dC, dI) (kT cI cJ cB) [.ref h_this, .int p1] [cl_X10 h_this h_this_dayAt h_this_secondAt h_this_spans h_this_kept h_this_text h_this_row h_this_read h_this_many h_this_first h_this_lengths h_this_page i_this j_this, (h_this_spans, .inl (cI, 24, .inl f_this_spans)), (h_this_row, .inl (cJ, 16, .inr (.inl f_this_row)))] [cl_X10 h_this h_this_dayAt h_this_secondAt h_this_spans h_this_kept h_this_text h_this_row h_this_read h_this_many h_this_first h_this_lengths h_this_page o_i_this j_this, (h_this_spans, .inl (cI, 24, .inl f_this_spans)), (h_this_row, .inl (cJ, 16, .inr (.inl o_f_this_row)))] := by
  refine MV.of (cc := cX10_tellsSpan) (maxL := 3) (by decide) (Nat.le_of_ble_eq_true rfl) (fun p e s m args below meth c A Q ls KC hN hK hP hD hA hl hEnd => ?_)
  obtain ⟨hx, hb, hml, hown, hts⟩ := KC
  have hown : s.vm.findClass "DateSpansModel" = some m.cls := hown
  have hl : lv_has ls 3 [(0, .ref h_this), (1, .int p1)] := hl
  have hS : va_S A s.heap s.heap [] := va_S.rf
  have LP_7 : ∀ n_7 : Nat, ∀ (v1 : Int32) (v2 : Int32) (i_this : Nat → Int32) (f_this_row : Nat → Int64) (ls : Array Slot) (H : Heap) (locs : List Loc), fX10_tellsSpan_l7 N j_this f_this_spans n_7 v1 v2 i_this f_this_row = some (o_i_this, o_f_this_row) → lv_has ls 3 [(0, .ref h_this), (1, .int v1), (2, .int v2)] → va_P (dC, dI) vwCl [cl_X10 h_this h_this_dayAt h_this_secondAt h_this_spans h_this_kept h_this_text h_this_row h_this_read h_this_many h_this_first h_this_lengths h_this_page i_this j_this, (h_this_spans, .inl (cI, 24, .inl f_this_spans)), (h_this_row, .inl (cJ, 16, .inr (.inl f_this_row)))] H → va_D A [cl_X10 h_this h_this_dayAt h_this_secondAt h_this_spans h_this_kept h_this_text h_this_row h_this_read h_this_many h_this_first h_this_lengths h_this_page i_this j_this, (h_this_spans, .inl (cI, 24, .inl f_this_spans)), (h_this_row, .inl (cJ, 16, .inr (.inl f_this_row)))] → va_S A s.heap H locs → W p l e (kR 1 22) s m args below meth c H locs 0 0 Q (F0 m 7 ls []) := by
    intro n_7
    induction n_7 with
    | zero =>
      intro v1 v2 i_this f_this_row ls H locs h hl hP hD hS
      rw [fX10_tellsSpan_l7_0] at h; cases h
    | succ n_7 ih_7 =>
      intro v1 v2 i_this f_this_row ls H locs h hl hP hD hS
      rw [fX10_tellsSpan_l7_s] at h
      refine lv_iload_n hx hb dX10_tellsSpan_7 rfl (lv_at hl 2 rfl) ?_
      refine lv_iconst (v := (3 : Int32)) hx hb dX10_tellsSpan_8 (by decide) ?_
      refine lv_icmp_ge (tgt := 33) hx hb dX10_tellsSpan_9 (by decide) (fun c1 => ?_) (fun c1 => ?_)
      · have h := ite_t c1 h
        obtain ⟨rfl, rfl⟩ := pj2 h
        exact hEnd _ _ _ _ hP hS dX10_tellsSpan_33
      have h := ite_f c1 h
      refine lv_aload_n hx hb dX10_tellsSpan_12 rfl (lv_at hl 0 rfl) ?_
      refine lv_aload_n hx hb dX10_tellsSpan_13 rfl (lv_at hl 0 rfl) ?_
      refine va_get (D := (dC, dI)) (ci := 9) (v := .ref h_this_spans) (C := RX10) (T := TX10) (N := 29) hx hb hts inX10 hown hK hP 0 rfl rfl 2 (by decide) (hts _ (kq q_988 rfl)) (fun _ h9 => h9) rfl dX10_tellsSpan_14 ?_
      refine lv_iconst (v := (3 : Int32)) hx hb dX10_tellsSpan_17 (by decide) ?_
      refine lv_iload_n hx hb dX10_tellsSpan_18 rfl (lv_at hl 1 rfl) ?_
      refine lv_imul hx hb dX10_tellsSpan_19 ?_
      refine lv_iload_n hx hb dX10_tellsSpan_20 rfl (lv_at hl 2 rfl) ?_
      refine lv_iadd hx hb dX10_tellsSpan_21 ?_
      obtain ⟨hi2, h⟩ := gi_at h
      refine va_iald hx hb hK hP 1 0 rfl rfl hi2 dX10_tellsSpan_22 ?_
      refine lv_i2l hx hb dX10_tellsSpan_23 rfl ?_
      obtain ⟨i_this_3, f_this_row_4, hc5, h⟩ := bd2_at h
      refine kjV (kV (own := "DateSpansModel") (C := "DateSpansModel") (b := h_this) (As := [.long ((f_this_spans (((3 : Int32) * v1) + v2).toNatClampNeg).toInt64)]) (rest := []) ⟨hx, hb, hml, hown, hts⟩ (kX10_tell l dC dI cI cJ cB h_this h_this_dayAt h_this_secondAt h_this_spans h_this_kept h_this_text h_this_row h_this_read h_this_many h_this_first h_this_lengths h_this_page N ((f_this_spans (((3 : Int32) * v1) + v2).toNatClampNeg).toInt64) i_this j_this f_this_row i_this_3 f_this_row_4 hc5 _) (kgV (kq q_1221 rfl) (kq q_1223 rfl) (kq q_29 rfl) (kq q_66 rfl) (kq q_1224 rfl)) yd_X10_tell ⟨Nat.le_of_ble_eq_true rfl, Nat.le_of_ble_eq_true rfl⟩ hN hK hP hD [0, 2] rfl rfl (ci := 9) rfl rfl rfl rfl rfl hl.1 rfl (lv_room (Nat.le_of_ble_eq_true rfl)) dX10_tellsSpan_24) hP hD hS hA [0, 2] rfl rfl (fun H locs hP hD hS => ?_)
      have hP : va_P (dC, dI) vwCl [cl_X10 h_this h_this_dayAt h_this_secondAt h_this_spans h_this_kept h_this_text h_this_row h_this_read h_this_many h_this_first h_this_lengths h_this_page i_this_3 j_this, (h_this_spans, .inl (cI, 24, .inl f_this_spans)), (h_this_row, .inl (cJ, 16, .inr (.inl f_this_row_4)))] H := hP
      have hD : va_D A [cl_X10 h_this h_this_dayAt h_this_secondAt h_this_spans h_this_kept h_this_text h_this_row h_this_read h_this_many h_this_first h_this_lengths h_this_page i_this_3 j_this, (h_this_spans, .inl (cI, 24, .inl f_this_spans)), (h_this_row, .inl (cJ, 16, .inr (.inl f_this_row_4)))] := hD
      obtain ⟨z6, ez6⟩ : ∃ y : Int32, y = (v2 + (1 : Int32)) := ⟨_, rfl⟩
      have h := nm_at ez6 h
      refine lv_iinc (v := z6) (lv' := [(2, .int z6), (0, .ref h_this), (1, .int v1)]) hx hb dX10_tellsSpan_27 hl (k := 2) rfl (by rw [ez6]; rfl) (by decide) rfl (fun ls hl => ?_)
      refine lv_goto (tgt := 7) hx hb dX10_tellsSpan_30 (by decide) ?_
      exact ih_7 _ _ _ _ _ _ _ h (lv_sub hl [1, 2, 0] rfl) hP hD hS
  have h := hf
  unfold fX10_tellsSpan at h
  refine lv_aload_n hx hb dX10_tellsSpan_0 rfl (lv_at hl 0 rfl) ?_
  refine lv_iconst (v := (0 : Int32)) hx hb dX10_tellsSpan_1 (by decide) ?_
  refine va_put (D := (dC, dI)) (ci := 9) (v := .int (0 : Int32)) (ty := .int) (C := RX10) (T := TX10) (N := 29) hx hb hts inX10 tyX10 tyX10_ok nmX10 hown hK hP hD hS 0 rfl rfl 8 (by decide) (hts _ (kq q_994 rfl)) (fun _ h9 => h9) rfl (by decide +kernel) rfl rfl (Nat.le_of_ble_eq_true rfl) dX10_tellsSpan_2 (fun H locs hP hD hS => ?_)
  have hP : va_P (dC, dI) vwCl [(h_this, .inr (9, [.ref h_this_dayAt, .ref h_this_secondAt, .ref h_this_spans, .ref h_this_kept, .int (i_this 4), .ref h_this_text, .int (i_this 6), .ref h_this_row, .int (0 : Int32), .int (i_this 9), .int (i_this 10), .int (i_this 11), .int (i_this 12), .int (i_this 13), .int (i_this 14), .int (i_this 15), .int (i_this 16), .int (i_this 17), .int (i_this 18), .ref h_this_read, .long (j_this 20), .ref h_this_many, .ref h_this_first, .ref h_this_lengths, .int (i_this 24), .long (j_this 25), .long (j_this 26), .ref h_this_page, .int (i_this 28)])), (h_this_spans, .inl (cI, 24, .inl f_this_spans)), (h_this_row, .inl (cJ, 16, .inr (.inl f_this_row)))] H := hP
  have hD : va_D A [(h_this, .inr (9, [.ref h_this_dayAt, .ref h_this_secondAt, .ref h_this_spans, .ref h_this_kept, .int (i_this 4), .ref h_this_text, .int (i_this 6), .ref h_this_row, .int (0 : Int32), .int (i_this 9), .int (i_this 10), .int (i_this 11), .int (i_this 12), .int (i_this 13), .int (i_this 14), .int (i_this 15), .int (i_this 16), .int (i_this 17), .int (i_this 18), .ref h_this_read, .long (j_this 20), .ref h_this_many, .ref h_this_first, .ref h_this_lengths, .int (i_this 24), .long (j_this 25), .long (j_this 26), .ref h_this_page, .int (i_this 28)])), (h_this_spans, .inl (cI, 24, .inl f_this_spans)), (h_this_row, .inl (cJ, 16, .inr (.inl f_this_row)))] := hD
  refine lv_iconst (v := (0 : Int32)) hx hb dX10_tellsSpan_5 (by decide) ?_
  refine lv_istore_n (lv' := [(2, .int (0 : Int32)), (0, .ref h_this), (1, .int p1)]) hx hb dX10_tellsSpan_6 rfl hl (by decide) rfl (fun ls hl => ?_)
  have hP : va_P (dC, dI) vwCl [cl_X10 h_this h_this_dayAt h_this_secondAt h_this_spans h_this_kept h_this_text h_this_row h_this_read h_this_many h_this_first h_this_lengths h_this_page (upd i_this 8 (0 : Int32)) j_this, (h_this_spans, .inl (cI, 24, .inl f_this_spans)), (h_this_row, .inl (cJ, 16, .inr (.inl f_this_row)))] H := hP
  have hD : va_D A [cl_X10 h_this h_this_dayAt h_this_secondAt h_this_spans h_this_kept h_this_text h_this_row h_this_read h_this_many h_this_first h_this_lengths h_this_page (upd i_this 8 (0 : Int32)) j_this, (h_this_spans, .inl (cI, 24, .inl f_this_spans)), (h_this_row, .inl (cJ, 16, .inr (.inl f_this_row)))] := hD
  exact LP_7 N _ _ _ _ _ _ _ h (lv_sub hl [1, 2, 0] rfl) hP hD hS
noncomputable def fX10_isPart (N : Nat) (p1 : Int64) : Option (Int32) := (bd1 (fX10_in N p1 (-1000000000 : Int64) (1000000000 : Int64)) fun r1 => (gz r1 (some r1)))
set_option maxHeartbeats 4000000 in
set_option maxRecDepth 100000 in
theorem kX10_isPart (l : Launch) (N : Nat) (p1 : Int64) (r : Int32) (hf : fX10_isPart N p1 = some r) : SI l yX10_isPart (kws yX10_isPart cX10_isPart 2 (some .boolean)) (kR 1 25) [.long p1] r := by
  refine SI.of (cc := cX10_isPart) (maxL := 2) (by decide) (Nat.le_of_ble_eq_true rfl) (fun p e s m args below meth c Q ls KC hl hEnd => ?_)
  obtain ⟨hx, hb, hml, hown, hts⟩ := KC
  have hown : s.vm.findClass "DateSpansModel" = some m.cls := hown
  have hl : lv_has ls 2 [(0, .long p1)] := hl
  have h := hf
  unfold fX10_isPart at h
  refine lv_lload_n hx hb dX10_isPart_0 rfl (lv_at hl 0 rfl) ?_
  refine lv_ldc2 (v := (-1000000000 : Int64)) hx hb hown (hts _ (kq q_1232 rfl)) dX10_isPart_1 ?_
  refine lv_ldc2 (v := (1000000000 : Int64)) hx hb hown (hts _ (kq q_1233 rfl)) dX10_isPart_4 ?_
  obtain ⟨r1, hc2, h⟩ := bd1_at h
  refine kjSI (kS0 (own := "DateSpansModel") (As := [.long p1, .long (-1000000000 : Int64), .long (1000000000 : Int64)]) (rest := []) ⟨hx, hb, hml, hown, hts⟩ (kX10_in l N p1 (-1000000000 : Int64) (1000000000 : Int64) r1 hc2) (kgS (kq q_1086 rfl) (kq q_1087 rfl) (kq q_66 rfl) (kq q_1088 rfl)) yd_X10_in ⟨Nat.le_of_ble_eq_true rfl, Nat.le_of_ble_eq_true rfl⟩ rfl rfl hl.1 rfl (lv_room (Nat.le_of_ble_eq_true rfl)) dX10_isPart_7) ?_
  obtain ⟨hz3, h⟩ := gz_at h
  obtain rfl := pj1 h
  exact hEnd _ _ dX10_isPart_10 hz3
noncomputable def fX10_parts (N : Nat) (p1 : Int32) (p2 : Int32) (p3 : Int32) (p4 : Int32) (i_this : Nat → Int32) (j_this : Nat → Int64) (f_this_spans : Nat → Int32) : Option (Int32 × (Nat → Int32) × (Nat → Int32)) := (bd1 (fX10_isSlot N p1) fun r1 => (if r1 = (0 : Int32) then (some ((0 : Int32), (upd i_this 9 (0 : Int32)), f_this_spans)) else (bd1 (fX10_isPart N p2.toInt64) fun r4 => (if r4 = (0 : Int32) then (some ((0 : Int32), (upd i_this 9 (0 : Int32)), f_this_spans)) else (bd1 (fX10_isPart N p3.toInt64) fun r7 => (if r7 = (0 : Int32) then (some ((0 : Int32), (upd i_this 9 (0 : Int32)), f_this_spans)) else (bd1 (fX10_isPart N p4.toInt64) fun r10 => (if r10 = (0 : Int32) then (some ((0 : Int32), (upd i_this 9 (0 : Int32)), f_this_spans)) else (bd1 (fX10_laysSpan N p1 p2.toInt64 p3.toInt64 p4.toInt64 (upd i_this 9 (0 : Int32)) j_this f_this_spans) fun f_this_spans_13 => (some ((1 : Int32), (upd i_this 9 (0 : Int32)), f_this_spans_13)))))))))))
set_option maxHeartbeats 4000000 in
set_option maxRecDepth 100000 in
theorem kX10_parts (l : Launch) (dC : Nat → ClassId) (dI : Nat → Nat → Nat) (cI cJ cB : ClassId) (h_this h_this_dayAt h_this_secondAt h_this_spans h_this_kept h_this_text h_this_row h_this_read h_this_many h_this_first h_this_lengths h_this_page : Nat) (N : Nat) (p1 : Int32) (p2 : Int32) (p3 : Int32) (p4 : Int32) (i_this : Nat → Int32) (j_this : Nat → Int64) (f_this_spans : Nat → Int32) (r : Int32) (o_i_this : Nat → Int32) (o_f_this_spans : Nat → Int32) (hf : fX10_parts N p1 p2 p3 p4 i_this j_this f_this_spans = some (r, o_i_this, o_f_this_spans)) : MI l yX10_parts (kws yX10_parts cX10_parts 5 (some .boolean)) (kR 2 46) (dC, dI) (kT cI cJ cB) [.ref h_this, .int p1, .int p2, .int p3, .int p4] [cl_X10 h_this h_this_dayAt h_this_secondAt h_this_spans h_this_kept h_this_text h_this_row h_this_read h_this_many h_this_first h_this_lengths h_this_page i_this j_this, (h_this_spans, .inl (cI, 24, .inl f_this_spans))] [cl_X10 h_this h_this_dayAt h_this_secondAt h_this_spans h_this_kept h_this_text h_this_row h_this_read h_this_many h_this_first h_this_lengths h_this_page o_i_this j_this, (h_this_spans, .inl (cI, 24, .inl o_f_this_spans))] r := by
  refine MI.of (cc := cX10_parts) (maxL := 5) (by decide) (Nat.le_of_ble_eq_true rfl) (fun p e s m args below meth c A Q ls KC hN hK hP hD hA hl hEnd => ?_)
  obtain ⟨hx, hb, hml, hown, hts⟩ := KC
  have hown : s.vm.findClass "DateSpansModel" = some m.cls := hown
  have hl : lv_has ls 5 [(0, .ref h_this), (1, .int p1), (2, .int p2), (3, .int p3), (4, .int p4)] := hl
  have hS : va_S A s.heap s.heap [] := va_S.rf
  have h := hf
  unfold fX10_parts at h
  refine lv_aload_n hx hb dX10_parts_0 rfl (lv_at hl 0 rfl) ?_
  refine lv_iconst (v := (0 : Int32)) hx hb dX10_parts_1 (by decide) ?_
  refine va_put (D := (dC, dI)) (ci := 9) (v := .int (0 : Int32)) (ty := .int) (C := RX10) (T := TX10) (N := 29) hx hb hts inX10 tyX10 tyX10_ok nmX10 hown hK hP hD hS 0 rfl rfl 9 (by decide) (hts _ (kq q_995 rfl)) (fun _ h9 => h9) rfl (by decide +kernel) rfl rfl (Nat.le_of_ble_eq_true rfl) dX10_parts_2 (fun H locs hP hD hS => ?_)
  have hP : va_P (dC, dI) vwCl [(h_this, .inr (9, [.ref h_this_dayAt, .ref h_this_secondAt, .ref h_this_spans, .ref h_this_kept, .int (i_this 4), .ref h_this_text, .int (i_this 6), .ref h_this_row, .int (i_this 8), .int (0 : Int32), .int (i_this 10), .int (i_this 11), .int (i_this 12), .int (i_this 13), .int (i_this 14), .int (i_this 15), .int (i_this 16), .int (i_this 17), .int (i_this 18), .ref h_this_read, .long (j_this 20), .ref h_this_many, .ref h_this_first, .ref h_this_lengths, .int (i_this 24), .long (j_this 25), .long (j_this 26), .ref h_this_page, .int (i_this 28)])), (h_this_spans, .inl (cI, 24, .inl f_this_spans))] H := hP
  have hD : va_D A [(h_this, .inr (9, [.ref h_this_dayAt, .ref h_this_secondAt, .ref h_this_spans, .ref h_this_kept, .int (i_this 4), .ref h_this_text, .int (i_this 6), .ref h_this_row, .int (i_this 8), .int (0 : Int32), .int (i_this 10), .int (i_this 11), .int (i_this 12), .int (i_this 13), .int (i_this 14), .int (i_this 15), .int (i_this 16), .int (i_this 17), .int (i_this 18), .ref h_this_read, .long (j_this 20), .ref h_this_many, .ref h_this_first, .ref h_this_lengths, .int (i_this 24), .long (j_this 25), .long (j_this 26), .ref h_this_page, .int (i_this 28)])), (h_this_spans, .inl (cI, 24, .inl f_this_spans))] := hD
  refine lv_iload_n hx hb dX10_parts_5 rfl (lv_at hl 1 rfl) ?_
  have hP : va_P (dC, dI) vwCl [cl_X10 h_this h_this_dayAt h_this_secondAt h_this_spans h_this_kept h_this_text h_this_row h_this_read h_this_many h_this_first h_this_lengths h_this_page (upd i_this 9 (0 : Int32)) j_this, (h_this_spans, .inl (cI, 24, .inl f_this_spans))] H := hP
  have hD : va_D A [cl_X10 h_this h_this_dayAt h_this_secondAt h_this_spans h_this_kept h_this_text h_this_row h_this_read h_this_many h_this_first h_this_lengths h_this_page (upd i_this 9 (0 : Int32)) j_this, (h_this_spans, .inl (cI, 24, .inl f_this_spans))] := hD
  obtain ⟨r1, hc2, h⟩ := bd1_at h
  refine kjSI (kS0 (own := "DateSpansModel") (As := [.int p1]) (rest := []) ⟨hx, hb, hml, hown, hts⟩ (kX10_isSlot l N p1 r1 hc2) (kgS (kq q_1123 rfl) (kq q_1124 rfl) (kq q_66 rfl) (kq q_1125 rfl)) yd_X10_isSlot ⟨Nat.le_of_ble_eq_true rfl, Nat.le_of_ble_eq_true rfl⟩ rfl rfl hl.1 rfl (lv_room (Nat.le_of_ble_eq_true rfl)) dX10_parts_6) ?_
  refine lv_if_eq (tgt := 37) hx hb dX10_parts_9 (by decide) (fun c3 => ?_) (fun c3 => ?_)
  · have h := ite_t c3 h
    refine lv_iconst (v := (0 : Int32)) hx hb dX10_parts_37 (by decide) ?_
    obtain ⟨rfl, rfl, rfl⟩ := pj3 h
    exact hEnd _ _ _ _ hP hS dX10_parts_38 rfl
  have h := ite_f c3 h
  refine lv_iload_n hx hb dX10_parts_12 rfl (lv_at hl 2 rfl) ?_
  refine lv_i2l hx hb dX10_parts_13 rfl ?_
  obtain ⟨r4, hc5, h⟩ := bd1_at h
  refine kjSI (kS0 (own := "DateSpansModel") (As := [.long p2.toInt64]) (rest := []) ⟨hx, hb, hml, hown, hts⟩ (kX10_isPart l N p2.toInt64 r4 hc5) (kgS (kq q_1229 rfl) (kq q_1230 rfl) (kq q_66 rfl) (kq q_1231 rfl)) yd_X10_isPart ⟨Nat.le_of_ble_eq_true rfl, Nat.le_of_ble_eq_true rfl⟩ rfl rfl hl.1 rfl (lv_room (Nat.le_of_ble_eq_true rfl)) dX10_parts_14) ?_
  refine lv_if_eq (tgt := 37) hx hb dX10_parts_17 (by decide) (fun c6 => ?_) (fun c6 => ?_)
  · have h := ite_t c6 h
    refine lv_iconst (v := (0 : Int32)) hx hb dX10_parts_37 (by decide) ?_
    obtain ⟨rfl, rfl, rfl⟩ := pj3 h
    exact hEnd _ _ _ _ hP hS dX10_parts_38 rfl
  have h := ite_f c6 h
  refine lv_iload_n hx hb dX10_parts_20 rfl (lv_at hl 3 rfl) ?_
  refine lv_i2l hx hb dX10_parts_21 rfl ?_
  obtain ⟨r7, hc8, h⟩ := bd1_at h
  refine kjSI (kS0 (own := "DateSpansModel") (As := [.long p3.toInt64]) (rest := []) ⟨hx, hb, hml, hown, hts⟩ (kX10_isPart l N p3.toInt64 r7 hc8) (kgS (kq q_1229 rfl) (kq q_1230 rfl) (kq q_66 rfl) (kq q_1231 rfl)) yd_X10_isPart ⟨Nat.le_of_ble_eq_true rfl, Nat.le_of_ble_eq_true rfl⟩ rfl rfl hl.1 rfl (lv_room (Nat.le_of_ble_eq_true rfl)) dX10_parts_22) ?_
  refine lv_if_eq (tgt := 37) hx hb dX10_parts_25 (by decide) (fun c9 => ?_) (fun c9 => ?_)
  · have h := ite_t c9 h
    refine lv_iconst (v := (0 : Int32)) hx hb dX10_parts_37 (by decide) ?_
    obtain ⟨rfl, rfl, rfl⟩ := pj3 h
    exact hEnd _ _ _ _ hP hS dX10_parts_38 rfl
  have h := ite_f c9 h
  refine lv_iload hx hb dX10_parts_28 (lv_at hl 4 rfl) ?_
  refine lv_i2l hx hb dX10_parts_30 rfl ?_
  obtain ⟨r10, hc11, h⟩ := bd1_at h
  refine kjSI (kS0 (own := "DateSpansModel") (As := [.long p4.toInt64]) (rest := []) ⟨hx, hb, hml, hown, hts⟩ (kX10_isPart l N p4.toInt64 r10 hc11) (kgS (kq q_1229 rfl) (kq q_1230 rfl) (kq q_66 rfl) (kq q_1231 rfl)) yd_X10_isPart ⟨Nat.le_of_ble_eq_true rfl, Nat.le_of_ble_eq_true rfl⟩ rfl rfl hl.1 rfl (lv_room (Nat.le_of_ble_eq_true rfl)) dX10_parts_31) ?_
  refine lv_if_ne (tgt := 39) hx hb dX10_parts_34 (by decide) (fun c12 => ?_) (fun c12 => ?_)
  · have h := ite_f c12 h
    refine lv_aload_n hx hb dX10_parts_39 rfl (lv_at hl 0 rfl) ?_
    refine lv_iload_n hx hb dX10_parts_40 rfl (lv_at hl 1 rfl) ?_
    refine lv_iload_n hx hb dX10_parts_41 rfl (lv_at hl 2 rfl) ?_
    refine lv_i2l hx hb dX10_parts_42 rfl ?_
    refine lv_iload_n hx hb dX10_parts_43 rfl (lv_at hl 3 rfl) ?_
    refine lv_i2l hx hb dX10_parts_44 rfl ?_
    refine lv_iload hx hb dX10_parts_45 (lv_at hl 4 rfl) ?_
    refine lv_i2l hx hb dX10_parts_47 rfl ?_
    obtain ⟨f_this_spans_13, hc14, h⟩ := bd1_at h
    refine kjV (kV (own := "DateSpansModel") (C := "DateSpansModel") (b := h_this) (As := [.int p1, .long p2.toInt64, .long p3.toInt64, .long p4.toInt64]) (rest := []) ⟨hx, hb, hml, hown, hts⟩ (kX10_laysSpan l dC dI cI cJ cB h_this h_this_dayAt h_this_secondAt h_this_spans h_this_kept h_this_text h_this_row h_this_read h_this_many h_this_first h_this_lengths h_this_page N p1 p2.toInt64 p3.toInt64 p4.toInt64 (upd i_this 9 (0 : Int32)) j_this f_this_spans f_this_spans_13 hc14 _) (kgV (kq q_1213 rfl) (kq q_1215 rfl) (kq q_27 rfl) (kq q_66 rfl) (kq q_1216 rfl)) yd_X10_laysSpan ⟨Nat.le_of_ble_eq_true rfl, Nat.le_of_ble_eq_true rfl⟩ hN hK hP hD [0, 1] rfl rfl (ci := 9) rfl rfl rfl rfl rfl hl.1 rfl (lv_room (Nat.le_of_ble_eq_true rfl)) dX10_parts_48) hP hD hS hA [0, 1] rfl rfl (fun H locs hP hD hS => ?_)
    have hP : va_P (dC, dI) vwCl [cl_X10 h_this h_this_dayAt h_this_secondAt h_this_spans h_this_kept h_this_text h_this_row h_this_read h_this_many h_this_first h_this_lengths h_this_page (upd i_this 9 (0 : Int32)) j_this, (h_this_spans, .inl (cI, 24, .inl f_this_spans_13))] H := hP
    have hD : va_D A [cl_X10 h_this h_this_dayAt h_this_secondAt h_this_spans h_this_kept h_this_text h_this_row h_this_read h_this_many h_this_first h_this_lengths h_this_page (upd i_this 9 (0 : Int32)) j_this, (h_this_spans, .inl (cI, 24, .inl f_this_spans_13))] := hD
    refine lv_iconst (v := (1 : Int32)) hx hb dX10_parts_51 (by decide) ?_
    obtain ⟨rfl, rfl, rfl⟩ := pj3 h
    exact hEnd _ _ _ _ hP hS dX10_parts_52 rfl
  have h := ite_t c12 h
  refine lv_iconst (v := (0 : Int32)) hx hb dX10_parts_37 (by decide) ?_
  obtain ⟨rfl, rfl, rfl⟩ := pj3 h
  exact hEnd _ _ _ _ hP hS dX10_parts_38 rfl
noncomputable def fX10_dates_j108 (N : Nat) (j_this : Nat → Int64) (v1 : Int32) (v2 : Int32) (i_this : Nat → Int32) : Option ((Nat → Int32)) := (bd1 (fX10_dayOf N v2 (i_this 11) (1 : Int32)) fun r1 => (some (upd i_this 12 ((v1 - r1) + (1 : Int32)))))
noncomputable def fX10_dates_l71 (N : Nat) (j_this : Nat → Int64) (n : Nat) : Int32 → Int32 → (Nat → Int32) → Option ((Nat → Int32)) := Nat.rec (motive := fun _ => Int32 → Int32 → (Nat → Int32) → Option ((Nat → Int32))) (fun _ _ _ => none) (fun _ K_71 v1 v2 i_this => (if (12 : Int32) ≤ (i_this 11) then (fX10_dates_j108 N j_this v1 v2 i_this) else (bd1 (fX10_dayOf N v2 ((i_this 11) + (1 : Int32)) (1 : Int32)) fun r4 => (if v1 < r4 then (fX10_dates_j108 N j_this v1 v2 i_this) else (K_71 v1 v2 (upd i_this 11 ((i_this 11) + (1 : Int32)))))))) n
theorem fX10_dates_l71_s (N : Nat) (j_this : Nat → Int64) (n : Nat) (v1 : Int32) (v2 : Int32) (i_this : Nat → Int32) : fX10_dates_l71 N j_this (n + 1) v1 v2 i_this = (if (12 : Int32) ≤ (i_this 11) then (fX10_dates_j108 N j_this v1 v2 i_this) else (bd1 (fX10_dayOf N v2 ((i_this 11) + (1 : Int32)) (1 : Int32)) fun r4 => (if v1 < r4 then (fX10_dates_j108 N j_this v1 v2 i_this) else ((fX10_dates_l71 N j_this n) v1 v2 (upd i_this 11 ((i_this 11) + (1 : Int32))))))) := rfl
theorem fX10_dates_l71_0 (N : Nat) (j_this : Nat → Int64) (v1 : Int32) (v2 : Int32) (i_this : Nat → Int32) : fX10_dates_l71 N j_this 0 v1 v2 i_this = none := rfl
noncomputable def fX10_dates_l33 (N : Nat) (j_this : Nat → Int64) (n : Nat) : Int32 → Int32 → (Nat → Int32) → Option ((Nat → Int32)) := Nat.rec (motive := fun _ => Int32 → Int32 → (Nat → Int32) → Option ((Nat → Int32))) (fun _ _ _ => none) (fun _ K_33 v1 v2 i_this => (bd1 (fX10_yearBegins N (v2 + (1 : Int32))) fun r7 => (if v1 < r7 then (bd1 (fX10_yearBegins N v2) fun r10 => (nm (v1 - r10) fun z12 => (fX10_dates_l71 N j_this N v1 v2 (upd (upd i_this 10 v2) 11 ((z12 / (31 : Int32)) + (1 : Int32)))))) else (nm (v2 + (1 : Int32)) fun z13 => (K_33 v1 z13 i_this))))) n
theorem fX10_dates_l33_s (N : Nat) (j_this : Nat → Int64) (n : Nat) (v1 : Int32) (v2 : Int32) (i_this : Nat → Int32) : fX10_dates_l33 N j_this (n + 1) v1 v2 i_this = (bd1 (fX10_yearBegins N (v2 + (1 : Int32))) fun r7 => (if v1 < r7 then (bd1 (fX10_yearBegins N v2) fun r10 => (nm (v1 - r10) fun z12 => (fX10_dates_l71 N j_this N v1 v2 (upd (upd i_this 10 v2) 11 ((z12 / (31 : Int32)) + (1 : Int32)))))) else (nm (v2 + (1 : Int32)) fun z13 => ((fX10_dates_l33 N j_this n) v1 z13 i_this)))) := rfl
theorem fX10_dates_l33_0 (N : Nat) (j_this : Nat → Int64) (v1 : Int32) (v2 : Int32) (i_this : Nat → Int32) : fX10_dates_l33 N j_this 0 v1 v2 i_this = none := rfl
noncomputable def fX10_dates_l14 (N : Nat) (j_this : Nat → Int64) (n : Nat) : Int32 → Int32 → (Nat → Int32) → Option ((Nat → Int32)) := Nat.rec (motive := fun _ => Int32 → Int32 → (Nat → Int32) → Option ((Nat → Int32))) (fun _ _ _ => none) (fun _ K_14 v1 v2 i_this => (if v2 ≤ (1 : Int32) then (fX10_dates_l33 N j_this N v1 v2 i_this) else (bd1 (fX10_yearBegins N v2) fun r15 => (if r15 ≤ v1 then (fX10_dates_l33 N j_this N v1 v2 i_this) else (nm (v2 + (-1 : Int32)) fun z18 => (K_14 v1 z18 i_this)))))) n
theorem fX10_dates_l14_s (N : Nat) (j_this : Nat → Int64) (n : Nat) (v1 : Int32) (v2 : Int32) (i_this : Nat → Int32) : fX10_dates_l14 N j_this (n + 1) v1 v2 i_this = (if v2 ≤ (1 : Int32) then (fX10_dates_l33 N j_this N v1 v2 i_this) else (bd1 (fX10_yearBegins N v2) fun r15 => (if r15 ≤ v1 then (fX10_dates_l33 N j_this N v1 v2 i_this) else (nm (v2 + (-1 : Int32)) fun z18 => ((fX10_dates_l14 N j_this n) v1 z18 i_this))))) := rfl
theorem fX10_dates_l14_0 (N : Nat) (j_this : Nat → Int64) (v1 : Int32) (v2 : Int32) (i_this : Nat → Int32) : fX10_dates_l14 N j_this 0 v1 v2 i_this = none := rfl
noncomputable def fX10_dates (N : Nat) (p1 : Int32) (i_this : Nat → Int32) (j_this : Nat → Int64) : Option ((Nat → Int32)) := (nm (((p1.toInt64 * (400 : Int64)) / (146097 : Int64)).toInt32 + (1 : Int32)) fun z19 => (fX10_dates_l14 N j_this N p1 z19 i_this))
set_option maxHeartbeats 4000000 in
set_option maxRecDepth 100000 in
theorem kX10_dates (l : Launch) (dC : Nat → ClassId) (dI : Nat → Nat → Nat) (cI cJ cB : ClassId) (h_this h_this_dayAt h_this_secondAt h_this_spans h_this_kept h_this_text h_this_row h_this_read h_this_many h_this_first h_this_lengths h_this_page : Nat) (N : Nat) (p1 : Int32) (i_this : Nat → Int32) (j_this : Nat → Int64) (o_i_this : Nat → Int32) (hf : fX10_dates N p1 i_this j_this = some o_i_this) : MV l yX10_dates (kws yX10_dates cX10_dates 4 (none)) (kR 2 43) (dC, dI) (kT cI cJ cB) [.ref h_this, .int p1] [cl_X10 h_this h_this_dayAt h_this_secondAt h_this_spans h_this_kept h_this_text h_this_row h_this_read h_this_many h_this_first h_this_lengths h_this_page i_this j_this] [cl_X10 h_this h_this_dayAt h_this_secondAt h_this_spans h_this_kept h_this_text h_this_row h_this_read h_this_many h_this_first h_this_lengths h_this_page o_i_this j_this] := by
  refine MV.of (cc := cX10_dates) (maxL := 4) (by decide) (Nat.le_of_ble_eq_true rfl) (fun p e s m args below meth c A Q ls KC hN hK hP hD hA hl hEnd => ?_)
  obtain ⟨hx, hb, hml, hown, hts⟩ := KC
  have hown : s.vm.findClass "DateSpansModel" = some m.cls := hown
  have hl : lv_has ls 4 [(0, .ref h_this), (1, .int p1)] := hl
  have hS : va_S A s.heap s.heap [] := va_S.rf
  have JN_108 : ∀ (v1 : Int32) (v2 : Int32) (i_this : Nat → Int32) (ls : Array Slot) (H : Heap) (locs : List Loc), (fX10_dates_j108 N j_this) v1 v2 i_this = some o_i_this → lv_has ls 4 [(0, .ref h_this), (1, .int v1), (2, .int v2)] → va_P (dC, dI) vwCl [cl_X10 h_this h_this_dayAt h_this_secondAt h_this_spans h_this_kept h_this_text h_this_row h_this_read h_this_many h_this_first h_this_lengths h_this_page i_this j_this] H → va_D A [cl_X10 h_this h_this_dayAt h_this_secondAt h_this_spans h_this_kept h_this_text h_this_row h_this_read h_this_many h_this_first h_this_lengths h_this_page i_this j_this] → va_S A s.heap H locs → W p l e (kR 2 43) s m args below meth c H locs 0 0 Q (F0 m 108 ls []) := by
    intro v1 v2 i_this ls H locs h hl hP hD hS
    unfold fX10_dates_j108 at h
    refine lv_aload_n hx hb dX10_dates_108 rfl (lv_at hl 0 rfl) ?_
    refine lv_iload_n hx hb dX10_dates_109 rfl (lv_at hl 1 rfl) ?_
    refine lv_iload_n hx hb dX10_dates_110 rfl (lv_at hl 2 rfl) ?_
    refine lv_aload_n hx hb dX10_dates_111 rfl (lv_at hl 0 rfl) ?_
    refine va_get (D := (dC, dI)) (ci := 9) (v := .int (i_this 11)) (C := RX10) (T := TX10) (N := 29) hx hb hts inX10 hown hK hP 0 rfl rfl 11 (by decide) (hts _ (kq q_997 rfl)) (fun _ h9 => h9) rfl dX10_dates_112 ?_
    refine lv_iconst (v := (1 : Int32)) hx hb dX10_dates_115 (by decide) ?_
    obtain ⟨r1, hc2, h⟩ := bd1_at h
    refine kjSI (kS0 (own := "DateSpansModel") (As := [.int v2, .int (i_this 11), .int (1 : Int32)]) (rest := [.int v1, .ref h_this]) ⟨hx, hb, hml, hown, hts⟩ (kX10_dayOf l N v2 (i_this 11) (1 : Int32) r1 hc2) (kgS (kq q_1127 rfl) (kq q_1128 rfl) (kq q_66 rfl) (kq q_1129 rfl)) yd_X10_dayOf ⟨Nat.le_of_ble_eq_true rfl, Nat.le_of_ble_eq_true rfl⟩ rfl rfl hl.1 rfl (lv_room (Nat.le_of_ble_eq_true rfl)) dX10_dates_116) ?_
    refine lv_isub hx hb dX10_dates_119 ?_
    refine lv_iconst (v := (1 : Int32)) hx hb dX10_dates_120 (by decide) ?_
    refine lv_iadd hx hb dX10_dates_121 ?_
    refine va_put (D := (dC, dI)) (ci := 9) (v := .int ((v1 - r1) + (1 : Int32))) (ty := .int) (C := RX10) (T := TX10) (N := 29) hx hb hts inX10 tyX10 tyX10_ok nmX10 hown hK hP hD hS 0 rfl rfl 12 (by decide) (hts _ (kq q_998 rfl)) (fun _ h9 => h9) rfl (by decide +kernel) rfl rfl (Nat.le_of_ble_eq_true rfl) dX10_dates_122 (fun H locs hP hD hS => ?_)
    have hP : va_P (dC, dI) vwCl [(h_this, .inr (9, [.ref h_this_dayAt, .ref h_this_secondAt, .ref h_this_spans, .ref h_this_kept, .int (i_this 4), .ref h_this_text, .int (i_this 6), .ref h_this_row, .int (i_this 8), .int (i_this 9), .int (i_this 10), .int (i_this 11), .int ((v1 - r1) + (1 : Int32)), .int (i_this 13), .int (i_this 14), .int (i_this 15), .int (i_this 16), .int (i_this 17), .int (i_this 18), .ref h_this_read, .long (j_this 20), .ref h_this_many, .ref h_this_first, .ref h_this_lengths, .int (i_this 24), .long (j_this 25), .long (j_this 26), .ref h_this_page, .int (i_this 28)]))] H := hP
    have hD : va_D A [(h_this, .inr (9, [.ref h_this_dayAt, .ref h_this_secondAt, .ref h_this_spans, .ref h_this_kept, .int (i_this 4), .ref h_this_text, .int (i_this 6), .ref h_this_row, .int (i_this 8), .int (i_this 9), .int (i_this 10), .int (i_this 11), .int ((v1 - r1) + (1 : Int32)), .int (i_this 13), .int (i_this 14), .int (i_this 15), .int (i_this 16), .int (i_this 17), .int (i_this 18), .ref h_this_read, .long (j_this 20), .ref h_this_many, .ref h_this_first, .ref h_this_lengths, .int (i_this 24), .long (j_this 25), .long (j_this 26), .ref h_this_page, .int (i_this 28)]))] := hD
    have hP : va_P (dC, dI) vwCl [cl_X10 h_this h_this_dayAt h_this_secondAt h_this_spans h_this_kept h_this_text h_this_row h_this_read h_this_many h_this_first h_this_lengths h_this_page (upd i_this 12 ((v1 - r1) + (1 : Int32))) j_this] H := hP
    have hD : va_D A [cl_X10 h_this h_this_dayAt h_this_secondAt h_this_spans h_this_kept h_this_text h_this_row h_this_read h_this_many h_this_first h_this_lengths h_this_page (upd i_this 12 ((v1 - r1) + (1 : Int32))) j_this] := hD
    obtain rfl := pj1 h
    exact hEnd _ _ _ _ hP hS dX10_dates_125
  have LP_71 : ∀ n_71 : Nat, ∀ (v1 : Int32) (v2 : Int32) (i_this : Nat → Int32) (ls : Array Slot) (H : Heap) (locs : List Loc), fX10_dates_l71 N j_this n_71 v1 v2 i_this = some o_i_this → lv_has ls 4 [(0, .ref h_this), (1, .int v1), (2, .int v2)] → va_P (dC, dI) vwCl [cl_X10 h_this h_this_dayAt h_this_secondAt h_this_spans h_this_kept h_this_text h_this_row h_this_read h_this_many h_this_first h_this_lengths h_this_page i_this j_this] H → va_D A [cl_X10 h_this h_this_dayAt h_this_secondAt h_this_spans h_this_kept h_this_text h_this_row h_this_read h_this_many h_this_first h_this_lengths h_this_page i_this j_this] → va_S A s.heap H locs → W p l e (kR 2 43) s m args below meth c H locs 0 0 Q (F0 m 71 ls []) := by
    intro n_71
    induction n_71 with
    | zero =>
      intro v1 v2 i_this ls H locs h hl hP hD hS
      rw [fX10_dates_l71_0] at h; cases h
    | succ n_71 ih_71 =>
      intro v1 v2 i_this ls H locs h hl hP hD hS
      rw [fX10_dates_l71_s] at h
      refine lv_aload_n hx hb dX10_dates_71 rfl (lv_at hl 0 rfl) ?_
      refine va_get (D := (dC, dI)) (ci := 9) (v := .int (i_this 11)) (C := RX10) (T := TX10) (N := 29) hx hb hts inX10 hown hK hP 0 rfl rfl 11 (by decide) (hts _ (kq q_997 rfl)) (fun _ h9 => h9) rfl dX10_dates_72 ?_
      refine lv_bipush (v := (12 : Int32)) hx hb dX10_dates_75 (by decide) ?_
      refine lv_icmp_ge (tgt := 108) hx hb dX10_dates_77 (by decide) (fun c3 => ?_) (fun c3 => ?_)
      · have h := ite_t c3 h
        exact JN_108 _ _ _ _ _ _ h (lv_sub hl [0, 1, 2] rfl) hP hD hS
      have h := ite_f c3 h
      refine lv_iload_n hx hb dX10_dates_80 rfl (lv_at hl 2 rfl) ?_
      refine lv_aload_n hx hb dX10_dates_81 rfl (lv_at hl 0 rfl) ?_
      refine va_get (D := (dC, dI)) (ci := 9) (v := .int (i_this 11)) (C := RX10) (T := TX10) (N := 29) hx hb hts inX10 hown hK hP 0 rfl rfl 11 (by decide) (hts _ (kq q_997 rfl)) (fun _ h9 => h9) rfl dX10_dates_82 ?_
      refine lv_iconst (v := (1 : Int32)) hx hb dX10_dates_85 (by decide) ?_
      refine lv_iadd hx hb dX10_dates_86 ?_
      refine lv_iconst (v := (1 : Int32)) hx hb dX10_dates_87 (by decide) ?_
      obtain ⟨r4, hc5, h⟩ := bd1_at h
      refine kjSI (kS0 (own := "DateSpansModel") (As := [.int v2, .int ((i_this 11) + (1 : Int32)), .int (1 : Int32)]) (rest := []) ⟨hx, hb, hml, hown, hts⟩ (kX10_dayOf l N v2 ((i_this 11) + (1 : Int32)) (1 : Int32) r4 hc5) (kgS (kq q_1127 rfl) (kq q_1128 rfl) (kq q_66 rfl) (kq q_1129 rfl)) yd_X10_dayOf ⟨Nat.le_of_ble_eq_true rfl, Nat.le_of_ble_eq_true rfl⟩ rfl rfl hl.1 rfl (lv_room (Nat.le_of_ble_eq_true rfl)) dX10_dates_88) ?_
      refine lv_iload_n hx hb dX10_dates_91 rfl (lv_at hl 1 rfl) ?_
      refine lv_icmp_gt (tgt := 108) hx hb dX10_dates_92 (by decide) (fun c6 => ?_) (fun c6 => ?_)
      · have h := ite_t c6 h
        exact JN_108 _ _ _ _ _ _ h (lv_sub hl [0, 1, 2] rfl) hP hD hS
      have h := ite_f c6 h
      refine lv_aload_n hx hb dX10_dates_95 rfl (lv_at hl 0 rfl) ?_
      refine lv_dup hx hb dX10_dates_96 rfl ?_
      refine va_get (D := (dC, dI)) (ci := 9) (v := .int (i_this 11)) (C := RX10) (T := TX10) (N := 29) hx hb hts inX10 hown hK hP 0 rfl rfl 11 (by decide) (hts _ (kq q_997 rfl)) (fun _ h9 => h9) rfl dX10_dates_97 ?_
      refine lv_iconst (v := (1 : Int32)) hx hb dX10_dates_100 (by decide) ?_
      refine lv_iadd hx hb dX10_dates_101 ?_
      refine va_put (D := (dC, dI)) (ci := 9) (v := .int ((i_this 11) + (1 : Int32))) (ty := .int) (C := RX10) (T := TX10) (N := 29) hx hb hts inX10 tyX10 tyX10_ok nmX10 hown hK hP hD hS 0 rfl rfl 11 (by decide) (hts _ (kq q_997 rfl)) (fun _ h9 => h9) rfl (by decide +kernel) rfl rfl (Nat.le_of_ble_eq_true rfl) dX10_dates_102 (fun H locs hP hD hS => ?_)
      have hP : va_P (dC, dI) vwCl [(h_this, .inr (9, [.ref h_this_dayAt, .ref h_this_secondAt, .ref h_this_spans, .ref h_this_kept, .int (i_this 4), .ref h_this_text, .int (i_this 6), .ref h_this_row, .int (i_this 8), .int (i_this 9), .int (i_this 10), .int ((i_this 11) + (1 : Int32)), .int (i_this 12), .int (i_this 13), .int (i_this 14), .int (i_this 15), .int (i_this 16), .int (i_this 17), .int (i_this 18), .ref h_this_read, .long (j_this 20), .ref h_this_many, .ref h_this_first, .ref h_this_lengths, .int (i_this 24), .long (j_this 25), .long (j_this 26), .ref h_this_page, .int (i_this 28)]))] H := hP
      have hD : va_D A [(h_this, .inr (9, [.ref h_this_dayAt, .ref h_this_secondAt, .ref h_this_spans, .ref h_this_kept, .int (i_this 4), .ref h_this_text, .int (i_this 6), .ref h_this_row, .int (i_this 8), .int (i_this 9), .int (i_this 10), .int ((i_this 11) + (1 : Int32)), .int (i_this 12), .int (i_this 13), .int (i_this 14), .int (i_this 15), .int (i_this 16), .int (i_this 17), .int (i_this 18), .ref h_this_read, .long (j_this 20), .ref h_this_many, .ref h_this_first, .ref h_this_lengths, .int (i_this 24), .long (j_this 25), .long (j_this 26), .ref h_this_page, .int (i_this 28)]))] := hD
      refine lv_goto (tgt := 71) hx hb dX10_dates_105 (by decide) ?_
      have hP : va_P (dC, dI) vwCl [cl_X10 h_this h_this_dayAt h_this_secondAt h_this_spans h_this_kept h_this_text h_this_row h_this_read h_this_many h_this_first h_this_lengths h_this_page (upd i_this 11 ((i_this 11) + (1 : Int32))) j_this] H := hP
      have hD : va_D A [cl_X10 h_this h_this_dayAt h_this_secondAt h_this_spans h_this_kept h_this_text h_this_row h_this_read h_this_many h_this_first h_this_lengths h_this_page (upd i_this 11 ((i_this 11) + (1 : Int32))) j_this] := hD
      exact ih_71 _ _ _ _ _ _ h (lv_sub hl [0, 1, 2] rfl) hP hD hS
  have LP_33 : ∀ n_33 : Nat, ∀ (v1 : Int32) (v2 : Int32) (i_this : Nat → Int32) (ls : Array Slot) (H : Heap) (locs : List Loc), fX10_dates_l33 N j_this n_33 v1 v2 i_this = some o_i_this → lv_has ls 4 [(0, .ref h_this), (1, .int v1), (2, .int v2)] → va_P (dC, dI) vwCl [cl_X10 h_this h_this_dayAt h_this_secondAt h_this_spans h_this_kept h_this_text h_this_row h_this_read h_this_many h_this_first h_this_lengths h_this_page i_this j_this] H → va_D A [cl_X10 h_this h_this_dayAt h_this_secondAt h_this_spans h_this_kept h_this_text h_this_row h_this_read h_this_many h_this_first h_this_lengths h_this_page i_this j_this] → va_S A s.heap H locs → W p l e (kR 2 43) s m args below meth c H locs 0 0 Q (F0 m 33 ls []) := by
    intro n_33
    induction n_33 with
    | zero =>
      intro v1 v2 i_this ls H locs h hl hP hD hS
      rw [fX10_dates_l33_0] at h; cases h
    | succ n_33 ih_33 =>
      intro v1 v2 i_this ls H locs h hl hP hD hS
      rw [fX10_dates_l33_s] at h
      refine lv_iload_n hx hb dX10_dates_33 rfl (lv_at hl 2 rfl) ?_
      refine lv_iconst (v := (1 : Int32)) hx hb dX10_dates_34 (by decide) ?_
      refine lv_iadd hx hb dX10_dates_35 ?_
      obtain ⟨r7, hc8, h⟩ := bd1_at h
      refine kjSI (kS0 (own := "DateSpansModel") (As := [.int (v2 + (1 : Int32))]) (rest := []) ⟨hx, hb, hml, hown, hts⟩ (kX10_yearBegins l N (v2 + (1 : Int32)) r7 hc8) (kgS (kq q_1130 rfl) (kq q_1131 rfl) (kq q_66 rfl) (kq q_1132 rfl)) yd_X10_yearBegins ⟨Nat.le_of_ble_eq_true rfl, Nat.le_of_ble_eq_true rfl⟩ rfl rfl hl.1 rfl (lv_room (Nat.le_of_ble_eq_true rfl)) dX10_dates_36) ?_
      refine lv_iload_n hx hb dX10_dates_39 rfl (lv_at hl 1 rfl) ?_
      refine lv_icmp_gt (tgt := 49) hx hb dX10_dates_40 (by decide) (fun c9 => ?_) (fun c9 => ?_)
      · have h := ite_t c9 h
        refine lv_aload_n hx hb dX10_dates_49 rfl (lv_at hl 0 rfl) ?_
        refine lv_iload_n hx hb dX10_dates_50 rfl (lv_at hl 2 rfl) ?_
        refine va_put (D := (dC, dI)) (ci := 9) (v := .int v2) (ty := .int) (C := RX10) (T := TX10) (N := 29) hx hb hts inX10 tyX10 tyX10_ok nmX10 hown hK hP hD hS 0 rfl rfl 10 (by decide) (hts _ (kq q_996 rfl)) (fun _ h9 => h9) rfl (by decide +kernel) rfl rfl (Nat.le_of_ble_eq_true rfl) dX10_dates_51 (fun H locs hP hD hS => ?_)
        have hP : va_P (dC, dI) vwCl [(h_this, .inr (9, [.ref h_this_dayAt, .ref h_this_secondAt, .ref h_this_spans, .ref h_this_kept, .int (i_this 4), .ref h_this_text, .int (i_this 6), .ref h_this_row, .int (i_this 8), .int (i_this 9), .int v2, .int (i_this 11), .int (i_this 12), .int (i_this 13), .int (i_this 14), .int (i_this 15), .int (i_this 16), .int (i_this 17), .int (i_this 18), .ref h_this_read, .long (j_this 20), .ref h_this_many, .ref h_this_first, .ref h_this_lengths, .int (i_this 24), .long (j_this 25), .long (j_this 26), .ref h_this_page, .int (i_this 28)]))] H := hP
        have hD : va_D A [(h_this, .inr (9, [.ref h_this_dayAt, .ref h_this_secondAt, .ref h_this_spans, .ref h_this_kept, .int (i_this 4), .ref h_this_text, .int (i_this 6), .ref h_this_row, .int (i_this 8), .int (i_this 9), .int v2, .int (i_this 11), .int (i_this 12), .int (i_this 13), .int (i_this 14), .int (i_this 15), .int (i_this 16), .int (i_this 17), .int (i_this 18), .ref h_this_read, .long (j_this 20), .ref h_this_many, .ref h_this_first, .ref h_this_lengths, .int (i_this 24), .long (j_this 25), .long (j_this 26), .ref h_this_page, .int (i_this 28)]))] := hD
        refine lv_iload_n hx hb dX10_dates_54 rfl (lv_at hl 1 rfl) ?_
        refine lv_iload_n hx hb dX10_dates_55 rfl (lv_at hl 2 rfl) ?_
        have hP : va_P (dC, dI) vwCl [cl_X10 h_this h_this_dayAt h_this_secondAt h_this_spans h_this_kept h_this_text h_this_row h_this_read h_this_many h_this_first h_this_lengths h_this_page (upd i_this 10 v2) j_this] H := hP
        have hD : va_D A [cl_X10 h_this h_this_dayAt h_this_secondAt h_this_spans h_this_kept h_this_text h_this_row h_this_read h_this_many h_this_first h_this_lengths h_this_page (upd i_this 10 v2) j_this] := hD
        obtain ⟨r10, hc11, h⟩ := bd1_at h
        refine kjSI (kS0 (own := "DateSpansModel") (As := [.int v2]) (rest := [.int v1]) ⟨hx, hb, hml, hown, hts⟩ (kX10_yearBegins l N v2 r10 hc11) (kgS (kq q_1130 rfl) (kq q_1131 rfl) (kq q_66 rfl) (kq q_1132 rfl)) yd_X10_yearBegins ⟨Nat.le_of_ble_eq_true rfl, Nat.le_of_ble_eq_true rfl⟩ rfl rfl hl.1 rfl (lv_room (Nat.le_of_ble_eq_true rfl)) dX10_dates_56) ?_
        refine lv_isub hx hb dX10_dates_59 ?_
        refine lv_topi (fun z12 ez12 => ?_)
        have h := nm_at ez12 h
        refine lv_istore_n (lv' := [(3, .int z12), (0, .ref h_this), (1, .int v1), (2, .int v2)]) hx hb dX10_dates_60 rfl hl (by decide) rfl (fun ls hl => ?_)
        refine lv_aload_n hx hb dX10_dates_61 rfl (lv_at hl 1 rfl) ?_
        refine lv_iload_n hx hb dX10_dates_62 rfl (lv_at hl 0 rfl) ?_
        refine lv_bipush (v := (31 : Int32)) hx hb dX10_dates_63 (by decide) ?_
        refine lv_idiv hx hb dX10_dates_65 (by decide) ?_
        refine lv_iconst (v := (1 : Int32)) hx hb dX10_dates_66 (by decide) ?_
        refine lv_iadd hx hb dX10_dates_67 ?_
        refine va_put (D := (dC, dI)) (ci := 9) (v := .int ((z12 / (31 : Int32)) + (1 : Int32))) (ty := .int) (C := RX10) (T := TX10) (N := 29) hx hb hts inX10 tyX10 tyX10_ok nmX10 hown hK hP hD hS 0 rfl rfl 11 (by decide) (hts _ (kq q_997 rfl)) (fun _ h9 => h9) rfl (by decide +kernel) rfl rfl (Nat.le_of_ble_eq_true rfl) dX10_dates_68 (fun H locs hP hD hS => ?_)
        have hP : va_P (dC, dI) vwCl [(h_this, .inr (9, [.ref h_this_dayAt, .ref h_this_secondAt, .ref h_this_spans, .ref h_this_kept, .int ((upd i_this 10 v2) 4), .ref h_this_text, .int ((upd i_this 10 v2) 6), .ref h_this_row, .int ((upd i_this 10 v2) 8), .int ((upd i_this 10 v2) 9), .int ((upd i_this 10 v2) 10), .int ((z12 / (31 : Int32)) + (1 : Int32)), .int ((upd i_this 10 v2) 12), .int ((upd i_this 10 v2) 13), .int ((upd i_this 10 v2) 14), .int ((upd i_this 10 v2) 15), .int ((upd i_this 10 v2) 16), .int ((upd i_this 10 v2) 17), .int ((upd i_this 10 v2) 18), .ref h_this_read, .long (j_this 20), .ref h_this_many, .ref h_this_first, .ref h_this_lengths, .int ((upd i_this 10 v2) 24), .long (j_this 25), .long (j_this 26), .ref h_this_page, .int ((upd i_this 10 v2) 28)]))] H := hP
        have hD : va_D A [(h_this, .inr (9, [.ref h_this_dayAt, .ref h_this_secondAt, .ref h_this_spans, .ref h_this_kept, .int ((upd i_this 10 v2) 4), .ref h_this_text, .int ((upd i_this 10 v2) 6), .ref h_this_row, .int ((upd i_this 10 v2) 8), .int ((upd i_this 10 v2) 9), .int ((upd i_this 10 v2) 10), .int ((z12 / (31 : Int32)) + (1 : Int32)), .int ((upd i_this 10 v2) 12), .int ((upd i_this 10 v2) 13), .int ((upd i_this 10 v2) 14), .int ((upd i_this 10 v2) 15), .int ((upd i_this 10 v2) 16), .int ((upd i_this 10 v2) 17), .int ((upd i_this 10 v2) 18), .ref h_this_read, .long (j_this 20), .ref h_this_many, .ref h_this_first, .ref h_this_lengths, .int ((upd i_this 10 v2) 24), .long (j_this 25), .long (j_this 26), .ref h_this_page, .int ((upd i_this 10 v2) 28)]))] := hD
        have hP : va_P (dC, dI) vwCl [cl_X10 h_this h_this_dayAt h_this_secondAt h_this_spans h_this_kept h_this_text h_this_row h_this_read h_this_many h_this_first h_this_lengths h_this_page (upd (upd i_this 10 v2) 11 ((z12 / (31 : Int32)) + (1 : Int32))) j_this] H := hP
        have hD : va_D A [cl_X10 h_this h_this_dayAt h_this_secondAt h_this_spans h_this_kept h_this_text h_this_row h_this_read h_this_many h_this_first h_this_lengths h_this_page (upd (upd i_this 10 v2) 11 ((z12 / (31 : Int32)) + (1 : Int32))) j_this] := hD
        exact LP_71 N _ _ _ _ _ _ h (lv_sub hl [1, 2, 3] rfl) hP hD hS
      have h := ite_f c9 h
      obtain ⟨z13, ez13⟩ : ∃ y : Int32, y = (v2 + (1 : Int32)) := ⟨_, rfl⟩
      have h := nm_at ez13 h
      refine lv_iinc (v := z13) (lv' := [(2, .int z13), (0, .ref h_this), (1, .int v1)]) hx hb dX10_dates_43 hl (k := 2) rfl (by rw [ez13]; rfl) (by decide) rfl (fun ls hl => ?_)
      refine lv_goto (tgt := 33) hx hb dX10_dates_46 (by decide) ?_
      exact ih_33 _ _ _ _ _ _ h (lv_sub hl [1, 2, 0] rfl) hP hD hS
  have LP_14 : ∀ n_14 : Nat, ∀ (v1 : Int32) (v2 : Int32) (i_this : Nat → Int32) (ls : Array Slot) (H : Heap) (locs : List Loc), fX10_dates_l14 N j_this n_14 v1 v2 i_this = some o_i_this → lv_has ls 4 [(0, .ref h_this), (1, .int v1), (2, .int v2)] → va_P (dC, dI) vwCl [cl_X10 h_this h_this_dayAt h_this_secondAt h_this_spans h_this_kept h_this_text h_this_row h_this_read h_this_many h_this_first h_this_lengths h_this_page i_this j_this] H → va_D A [cl_X10 h_this h_this_dayAt h_this_secondAt h_this_spans h_this_kept h_this_text h_this_row h_this_read h_this_many h_this_first h_this_lengths h_this_page i_this j_this] → va_S A s.heap H locs → W p l e (kR 2 43) s m args below meth c H locs 0 0 Q (F0 m 14 ls []) := by
    intro n_14
    induction n_14 with
    | zero =>
      intro v1 v2 i_this ls H locs h hl hP hD hS
      rw [fX10_dates_l14_0] at h; cases h
    | succ n_14 ih_14 =>
      intro v1 v2 i_this ls H locs h hl hP hD hS
      rw [fX10_dates_l14_s] at h
      refine lv_iload_n hx hb dX10_dates_14 rfl (lv_at hl 2 rfl) ?_
      refine lv_iconst (v := (1 : Int32)) hx hb dX10_dates_15 (by decide) ?_
      refine lv_icmp_le (tgt := 33) hx hb dX10_dates_16 (by decide) (fun c14 => ?_) (fun c14 => ?_)
      · have h := ite_t c14 h
        exact LP_33 N _ _ _ _ _ _ h (lv_sub hl [0, 1, 2] rfl) hP hD hS
      have h := ite_f c14 h
      refine lv_iload_n hx hb dX10_dates_19 rfl (lv_at hl 2 rfl) ?_
      obtain ⟨r15, hc16, h⟩ := bd1_at h
      refine kjSI (kS0 (own := "DateSpansModel") (As := [.int v2]) (rest := []) ⟨hx, hb, hml, hown, hts⟩ (kX10_yearBegins l N v2 r15 hc16) (kgS (kq q_1130 rfl) (kq q_1131 rfl) (kq q_66 rfl) (kq q_1132 rfl)) yd_X10_yearBegins ⟨Nat.le_of_ble_eq_true rfl, Nat.le_of_ble_eq_true rfl⟩ rfl rfl hl.1 rfl (lv_room (Nat.le_of_ble_eq_true rfl)) dX10_dates_20) ?_
      refine lv_iload_n hx hb dX10_dates_23 rfl (lv_at hl 1 rfl) ?_
      refine lv_icmp_le (tgt := 33) hx hb dX10_dates_24 (by decide) (fun c17 => ?_) (fun c17 => ?_)
      · have h := ite_t c17 h
        exact LP_33 N _ _ _ _ _ _ h (lv_sub hl [0, 1, 2] rfl) hP hD hS
      have h := ite_f c17 h
      obtain ⟨z18, ez18⟩ : ∃ y : Int32, y = (v2 + (-1 : Int32)) := ⟨_, rfl⟩
      have h := nm_at ez18 h
      refine lv_iinc (v := z18) (lv' := [(2, .int z18), (0, .ref h_this), (1, .int v1)]) hx hb dX10_dates_27 hl (k := 2) rfl (by rw [ez18]; rfl) (by decide) rfl (fun ls hl => ?_)
      refine lv_goto (tgt := 14) hx hb dX10_dates_30 (by decide) ?_
      exact ih_14 _ _ _ _ _ _ h (lv_sub hl [1, 2, 0] rfl) hP hD hS
  have h := hf
  unfold fX10_dates at h
  refine lv_iload_n hx hb dX10_dates_0 rfl (lv_at hl 1 rfl) ?_
  refine lv_i2l hx hb dX10_dates_1 rfl ?_
  refine lv_ldc2 (v := (400 : Int64)) hx hb hown (hts _ (kq q_1242 rfl)) dX10_dates_2 ?_
  refine lv_lmul hx hb dX10_dates_5 ?_
  refine lv_ldc2 (v := (146097 : Int64)) hx hb hown (hts _ (kq q_1243 rfl)) dX10_dates_6 ?_
  refine lv_ldiv hx hb dX10_dates_9 (by decide) ?_
  refine lv_l2i hx hb dX10_dates_10 rfl ?_
  refine lv_iconst (v := (1 : Int32)) hx hb dX10_dates_11 (by decide) ?_
  refine lv_iadd hx hb dX10_dates_12 ?_
  refine lv_topi (fun z19 ez19 => ?_)
  have h := nm_at ez19 h
  refine lv_istore_n (lv' := [(2, .int z19), (0, .ref h_this), (1, .int p1)]) hx hb dX10_dates_13 rfl hl (by decide) rfl (fun ls hl => ?_)
  exact LP_14 N _ _ _ _ _ _ h (lv_sub hl [1, 2, 0] rfl) hP hD hS
