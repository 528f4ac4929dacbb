theorem yd_L_say : yL_say.cls ≠ "java/lang/invoke/MethodHandle" ∧ yL_say.cls ≠ "java/lang/invoke/VarHandle" ∧ (parseMethodDescriptor yL_say.desc).map (fun d => d.parameters.length) = some 3 := by decide +kernel
theorem yd_L_instant : yL_instant.cls ≠ "java/lang/invoke/MethodHandle" ∧ yL_instant.cls ≠ "java/lang/invoke/VarHandle" ∧ (parseMethodDescriptor yL_instant.desc).map (fun d => d.parameters.length) = some 2 := by decide +kernel
theorem yd_L_isWritten : yL_isWritten.cls ≠ "java/lang/invoke/MethodHandle" ∧ yL_isWritten.cls ≠ "java/lang/invoke/VarHandle" ∧ (parseMethodDescriptor yL_isWritten.desc).map (fun d => d.parameters.length) = some 2 := by decide +kernel
theorem yd_L_isSpoken : yL_isSpoken.cls ≠ "java/lang/invoke/MethodHandle" ∧ yL_isSpoken.cls ≠ "java/lang/invoke/VarHandle" ∧ (parseMethodDescriptor yL_isSpoken.desc).map (fun d => d.parameters.length) = some 2 := by decide +kernel
noncomputable def fL_say_l13 (N : Nat) (n_a2 : Nat) (i_a1 : Int32) (f_a2 : Nat → Int32) (K_2 : Int32 → Int32 → Int32 → (Nat → Int32) → Option (Int32 × (Nat → Int32))) (n : Nat) : Int32 → Int32 → Int32 → Int32 → Int32 → (Nat → Int32) → Option (Int32 × (Nat → Int32)) := Nat.rec (motive := fun _ => Int32 → Int32 → Int32 → Int32 → Int32 → (Nat → Int32) → Option (Int32 × (Nat → Int32))) (fun _ _ _ _ _ _ => none) (fun _ K_13 v2 v3 v4 v5 i_a1_text f_a1_text_signs => (if (4 : Int32) ≤ v5 then (bd3 (fX9_sign N v4 i_a1 i_a1_text f_a1_text_signs) fun r2 i_a1_text_3 f_a1_text_signs_4 => (nm (v3 + (4 : Int32)) fun z6 => (K_2 v2 z6 i_a1_text_3 f_a1_text_signs_4))) else (if v2 ≤ (v3 + v5) then (nm ((v4 <<< ((8 : Int32) &&& 31)) ||| (0 : Int32)) fun z8 => (nm (v5 + (1 : Int32)) fun z9 => (K_13 v2 v3 z8 z9 i_a1_text f_a1_text_signs))) else (gi (v3 + v5) n_a2 (nm ((v4 <<< ((8 : Int32) &&& 31)) ||| (f_a2 (v3 + v5).toNatClampNeg)) fun z11 => (nm (v5 + (1 : Int32)) fun z12 => (K_13 v2 v3 z11 z12 i_a1_text f_a1_text_signs))))))) n
theorem fL_say_l13_s (N : Nat) (n_a2 : Nat) (i_a1 : Int32) (f_a2 : Nat → Int32) (K_2 : Int32 → Int32 → Int32 → (Nat → Int32) → Option (Int32 × (Nat → Int32))) (n : Nat) (v2 : Int32) (v3 : Int32) (v4 : Int32) (v5 : Int32) (i_a1_text : Int32) (f_a1_text_signs : Nat → Int32) : fL_say_l13 N n_a2 i_a1 f_a2 K_2 (n + 1) v2 v3 v4 v5 i_a1_text f_a1_text_signs = (if (4 : Int32) ≤ v5 then (bd3 (fX9_sign N v4 i_a1 i_a1_text f_a1_text_signs) fun r2 i_a1_text_3 f_a1_text_signs_4 => (nm (v3 + (4 : Int32)) fun z6 => (K_2 v2 z6 i_a1_text_3 f_a1_text_signs_4))) else (if v2 ≤ (v3 + v5) then (nm ((v4 <<< ((8 : Int32) &&& 31)) ||| (0 : Int32)) fun z8 => (nm (v5 + (1 : Int32)) fun z9 => ((fL_say_l13 N n_a2 i_a1 f_a2 K_2 n) v2 v3 z8 z9 i_a1_text f_a1_text_signs))) else (gi (v3 + v5) n_a2 (nm ((v4 <<< ((8 : Int32) &&& 31)) ||| (f_a2 (v3 + v5).toNatClampNeg)) fun z11 => (nm (v5 + (1 : Int32)) fun z12 => ((fL_say_l13 N n_a2 i_a1 f_a2 K_2 n) v2 v3 z11 z12 i_a1_text f_a1_text_signs)))))) := rfl
theorem fL_say_l13_0 (N : Nat) (n_a2 : Nat) (i_a1 : Int32) (f_a2 : Nat → Int32) (K_2 : Int32 → Int32 → Int32 → (Nat → Int32) → Option (Int32 × (Nat → Int32))) (v2 : Int32) (v3 : Int32) (v4 : Int32) (v5 : Int32) (i_a1_text : Int32) (f_a1_text_signs : Nat → Int32) : fL_say_l13 N n_a2 i_a1 f_a2 K_2 0 v2 v3 v4 v5 i_a1_text f_a1_text_signs = none := rfl
noncomputable def fL_say_l2 (N : Nat) (n_a2 : Nat) (i_a1 : Int32) (f_a2 : Nat → Int32) (n : Nat) : Int32 → Int32 → Int32 → (Nat → Int32) → Option (Int32 × (Nat → Int32)) := Nat.rec (motive := fun _ => Int32 → Int32 → Int32 → (Nat → Int32) → Option (Int32 × (Nat → Int32))) (fun _ _ _ _ => none) (fun _ K_2 v2 v3 i_a1_text f_a1_text_signs => (if v2 ≤ v3 then (bd2 (fX9_end N v2 i_a1 i_a1_text) fun r14 i_a1_text_15 => (some (i_a1_text_15, f_a1_text_signs))) else (fL_say_l13 N n_a2 i_a1 f_a2 K_2 N v2 v3 (0 : Int32) (0 : Int32) i_a1_text f_a1_text_signs))) n
theorem fL_say_l2_s (N : Nat) (n_a2 : Nat) (i_a1 : Int32) (f_a2 : Nat → Int32) (n : Nat) (v2 : Int32) (v3 : Int32) (i_a1_text : Int32) (f_a1_text_signs : Nat → Int32) : fL_say_l2 N n_a2 i_a1 f_a2 (n + 1) v2 v3 i_a1_text f_a1_text_signs = (if v2 ≤ v3 then (bd2 (fX9_end N v2 i_a1 i_a1_text) fun r14 i_a1_text_15 => (some (i_a1_text_15, f_a1_text_signs))) else (fL_say_l13 N n_a2 i_a1 f_a2 (fL_say_l2 N n_a2 i_a1 f_a2 n) N v2 v3 (0 : Int32) (0 : Int32) i_a1_text f_a1_text_signs)) := rfl
theorem fL_say_l2_0 (N : Nat) (n_a2 : Nat) (i_a1 : Int32) (f_a2 : Nat → Int32) (v2 : Int32) (v3 : Int32) (i_a1_text : Int32) (f_a1_text_signs : Nat → Int32) : fL_say_l2 N n_a2 i_a1 f_a2 0 v2 v3 i_a1_text f_a1_text_signs = none := rfl
noncomputable def fL_say (N : Nat) (p3 : Int32) (n_a2 : Nat) (i_a1 : Int32) (i_a1_text : Int32) (f_a1_text_signs : Nat → Int32) (f_a2 : Nat → Int32) : Option (Int32 × (Nat → Int32)) := (fL_say_l2 N n_a2 i_a1 f_a2 N p3 (0 : Int32) i_a1_text f_a1_text_signs)
set_option maxHeartbeats 4000000 in
set_option maxRecDepth 100000 in
theorem kL_say (l : Launch) (dC : Nat → ClassId) (dI : Nat → Nat → Nat) (cI cJ cB : ClassId) (h_a1 h_a1_now h_a1_kept h_a1_told h_a1_text h_a1_script h_a1_momentReader h_a1_spanReader h_a1_adder h_a1_other h_a1_trial h_a1_ways h_a1_text_signs h_a2 : Nat) (N : Nat) (p3 : Int32) (n_a2 : Nat) (i_a1 : Int32) (i_a1_text : Int32) (f_a1_text_signs : Nat → Int32) (f_a2 : Nat → Int32) (o_i_a1_text : Int32) (o_f_a1_text_signs : Nat → Int32) (hf : fL_say N p3 n_a2 i_a1 i_a1_text f_a1_text_signs f_a2 = some (o_i_a1_text, o_f_a1_text_signs)) : MV l yL_say (kws yL_say cL_say 6 (none)) (kR 2 42) (dC, dI) (kT cI cJ cB) [.ref h_a1, .ref h_a2, .int p3] [cl_X9 h_a1 h_a1_now h_a1_kept h_a1_told h_a1_text h_a1_script h_a1_momentReader h_a1_spanReader h_a1_adder h_a1_other h_a1_trial h_a1_ways i_a1, cl_X6 h_a1_text h_a1_text_signs i_a1_text, (h_a1_text_signs, .inl (cI, 100, .inl f_a1_text_signs)), (h_a2, .inl (cB, n_a2, .inl f_a2))] [cl_X9 h_a1 h_a1_now h_a1_kept h_a1_told h_a1_text h_a1_script h_a1_momentReader h_a1_spanReader h_a1_adder h_a1_other h_a1_trial h_a1_ways i_a1, cl_X6 h_a1_text h_a1_text_signs o_i_a1_text, (h_a1_text_signs, .inl (cI, 100, .inl o_f_a1_text_signs)), (h_a2, .inl (cB, n_a2, .inl f_a2))] := by
  refine MV.of (cc := cL_say) (maxL := 6) (by decide) (Nat.le_of_ble_eq_true rfl) (fun p e s m args below meth c A Q ls KC hN hK hP hD hA hl hEnd => ?_)
  obtain ⟨hx, hb, hml, hown, hts⟩ := KC
  have hown : s.vm.findClass "DateSpansLaw" = some m.cls := hown
  have hl : lv_has ls 6 [(0, .ref h_a1), (1, .ref h_a2), (2, .int p3)] := hl
  have hS : va_S A s.heap s.heap [] := va_S.rf
  have LP_2 : ∀ n_2 : Nat, ∀ (v2 : Int32) (v3 : Int32) (i_a1_text : Int32) (f_a1_text_signs : Nat → Int32) (ls : Array Slot) (H : Heap) (locs : List Loc), fL_say_l2 N n_a2 i_a1 f_a2 n_2 v2 v3 i_a1_text f_a1_text_signs = some (o_i_a1_text, o_f_a1_text_signs) → lv_has ls 6 [(0, .ref h_a1), (1, .ref h_a2), (2, .int v2), (3, .int v3)] → va_P (dC, dI) vwCl [cl_X9 h_a1 h_a1_now h_a1_kept h_a1_told h_a1_text h_a1_script h_a1_momentReader h_a1_spanReader h_a1_adder h_a1_other h_a1_trial h_a1_ways i_a1, cl_X6 h_a1_text h_a1_text_signs i_a1_text, (h_a1_text_signs, .inl (cI, 100, .inl f_a1_text_signs)), (h_a2, .inl (cB, n_a2, .inl f_a2))] H → va_D A [cl_X9 h_a1 h_a1_now h_a1_kept h_a1_told h_a1_text h_a1_script h_a1_momentReader h_a1_spanReader h_a1_adder h_a1_other h_a1_trial h_a1_ways i_a1, cl_X6 h_a1_text h_a1_text_signs i_a1_text, (h_a1_text_signs, .inl (cI, 100, .inl f_a1_text_signs)), (h_a2, .inl (cB, n_a2, .inl f_a2))] → va_S A s.heap H locs → W p l e (kR 2 42) s m args below meth c H locs 0 0 Q (F0 m 2 ls []) := by
    intro n_2
    induction n_2 with
    | zero =>
      intro v2 v3 i_a1_text f_a1_text_signs ls H locs h hl hP hD hS
      rw [fL_say_l2_0] at h; cases h
    | succ n_2 ih_2 =>
      have LP_13 : ∀ n_13 : Nat, ∀ (v2 : Int32) (v3 : Int32) (v4 : Int32) (v5 : Int32) (i_a1_text : Int32) (f_a1_text_signs : Nat → Int32) (ls : Array Slot) (H : Heap) (locs : List Loc), fL_say_l13 N n_a2 i_a1 f_a2 (fL_say_l2 N n_a2 i_a1 f_a2 n_2) n_13 v2 v3 v4 v5 i_a1_text f_a1_text_signs = some (o_i_a1_text, o_f_a1_text_signs) → lv_has ls 6 [(0, .ref h_a1), (1, .ref h_a2), (2, .int v2), (3, .int v3), (4, .int v4), (5, .int v5)] → va_P (dC, dI) vwCl [cl_X9 h_a1 h_a1_now h_a1_kept h_a1_told h_a1_text h_a1_script h_a1_momentReader h_a1_spanReader h_a1_adder h_a1_other h_a1_trial h_a1_ways i_a1, cl_X6 h_a1_text h_a1_text_signs i_a1_text, (h_a1_text_signs, .inl (cI, 100, .inl f_a1_text_signs)), (h_a2, .inl (cB, n_a2, .inl f_a2))] H → va_D A [cl_X9 h_a1 h_a1_now h_a1_kept h_a1_told h_a1_text h_a1_script h_a1_momentReader h_a1_spanReader h_a1_adder h_a1_other h_a1_trial h_a1_ways i_a1, cl_X6 h_a1_text h_a1_text_signs i_a1_text, (h_a1_text_signs, .inl (cI, 100, .inl f_a1_text_signs)), (h_a2, .inl (cB, n_a2, .inl f_a2))] → va_S A s.heap H locs → W p l e (kR 2 42) s m args below meth c H locs 0 0 Q (F0 m 13 ls []) := by
        intro n_13
        induction n_13 with
        | zero =>
          intro v2 v3 v4 v5 i_a1_text f_a1_text_signs ls H locs h hl hP hD hS
          rw [fL_say_l13_0] at h; cases h
        | succ n_13 ih_13 =>
          intro v2 v3 v4 v5 i_a1_text f_a1_text_signs ls H locs h hl hP hD hS
          rw [fL_say_l13_s] at h
          refine lv_iload hx hb dL_say_13 (lv_at hl 5 rfl) ?_
          refine lv_iconst (v := (4 : Int32)) hx hb dL_say_15 (by decide) ?_
          refine lv_icmp_ge (tgt := 51) hx hb dL_say_16 (by decide) (fun c1 => ?_) (fun c1 => ?_)
          · have h := ite_t c1 h
            refine lv_aload_n hx hb dL_say_51 rfl (lv_at hl 0 rfl) ?_
            refine lv_iload hx hb dL_say_52 (lv_at hl 4 rfl) ?_
            obtain ⟨r2, i_a1_text_3, f_a1_text_signs_4, hc5, h⟩ := bd3_at h
            refine kjIg (kVg (own := "DateSpansLaw") (C := "DateSpans") (b := h_a1) (As := [.int v4]) (rest := []) ⟨hx, hb, hml, hown, hts⟩ (kX9_sign l dC dI cI cJ cB h_a1 h_a1_now h_a1_kept h_a1_told h_a1_text h_a1_script h_a1_momentReader h_a1_spanReader h_a1_adder h_a1_other h_a1_trial h_a1_ways h_a1_text_signs N v4 i_a1 i_a1_text f_a1_text_signs r2 i_a1_text_3 f_a1_text_signs_4 hc5 _) (kgV (kq q_723 rfl) (kq q_724 rfl) (kq q_725 rfl) (kq q_18 rfl) (kq q_726 rfl)) yd_X9_sign ⟨Nat.le_of_ble_eq_true rfl, Nat.le_of_ble_eq_true rfl⟩ hN hK hP hD [0, 1, 2] rfl rfl (ci := 8) rfl rfl rfl rfl rfl hl.1 rfl (lv_room (Nat.le_of_ble_eq_true rfl)) dL_say_54 ⟨Nat.le_of_ble_eq_true rfl, Nat.le_of_ble_eq_true rfl⟩) hP hD hS hA [0, 1, 2] rfl rfl (fun H locs hP hD hS => ?_)
            have hP : va_P (dC, dI) vwCl [cl_X9 h_a1 h_a1_now h_a1_kept h_a1_told h_a1_text h_a1_script h_a1_momentReader h_a1_spanReader h_a1_adder h_a1_other h_a1_trial h_a1_ways i_a1, cl_X6 h_a1_text h_a1_text_signs i_a1_text_3, (h_a1_text_signs, .inl (cI, 100, .inl f_a1_text_signs_4)), (h_a2, .inl (cB, n_a2, .inl f_a2))] H := hP
            have hD : va_D A [cl_X9 h_a1 h_a1_now h_a1_kept h_a1_told h_a1_text h_a1_script h_a1_momentReader h_a1_spanReader h_a1_adder h_a1_other h_a1_trial h_a1_ways i_a1, cl_X6 h_a1_text h_a1_text_signs i_a1_text_3, (h_a1_text_signs, .inl (cI, 100, .inl f_a1_text_signs_4)), (h_a2, .inl (cB, n_a2, .inl f_a2))] := hD
            refine lv_pop hx hb dL_say_57 rfl ?_
            obtain ⟨z6, ez6⟩ : ∃ y : Int32, y = (v3 + (4 : Int32)) := ⟨_, rfl⟩
            have h := nm_at ez6 h
            refine lv_iinc (v := z6) (lv' := [(3, .int z6), (0, .ref h_a1), (1, .ref h_a2), (2, .int v2), (4, .int v4), (5, .int v5)]) hx hb dL_say_58 hl (k := 3) rfl (by rw [ez6]; rfl) (by decide) rfl (fun ls hl => ?_)
            refine lv_goto (tgt := 2) hx hb dL_say_61 (by decide) ?_
            exact ih_2 _ _ _ _ _ _ _ h (lv_sub hl [1, 2, 3, 0] rfl) hP hD hS
          have h := ite_f c1 h
          refine lv_iload hx hb dL_say_19 (lv_at hl 4 rfl) ?_
          refine lv_bipush (v := (8 : Int32)) hx hb dL_say_21 (by decide) ?_
          refine lv_ishl hx hb dL_say_23 ?_
          refine lv_iload_n hx hb dL_say_24 rfl (lv_at hl 3 rfl) ?_
          refine lv_iload hx hb dL_say_25 (lv_at hl 5 rfl) ?_
          refine lv_iadd hx hb dL_say_27 ?_
          refine lv_iload_n hx hb dL_say_28 rfl (lv_at hl 2 rfl) ?_
          refine lv_icmp_ge (tgt := 41) hx hb dL_say_29 (by decide) (fun c7 => ?_) (fun c7 => ?_)
          · have h := ite_t c7 h
            refine lv_iconst (v := (0 : Int32)) hx hb dL_say_41 (by decide) ?_
            refine lv_ior hx hb dL_say_42 ?_
            refine lv_topi (fun z8 ez8 => ?_)
            have h := nm_at ez8 h
            refine lv_istore (lv' := [(4, .int z8), (0, .ref h_a1), (1, .ref h_a2), (2, .int v2), (3, .int v3), (5, .int v5)]) hx hb dL_say_43 hl (by decide) rfl (fun ls hl => ?_)
            obtain ⟨z9, ez9⟩ : ∃ y : Int32, y = (v5 + (1 : Int32)) := ⟨_, rfl⟩
            have h := nm_at ez9 h
            refine lv_iinc (v := z9) (lv' := [(5, .int z9), (4, .int z8), (0, .ref h_a1), (1, .ref h_a2), (2, .int v2), (3, .int v3)]) hx hb dL_say_45 hl (k := 5) rfl (by rw [ez9]; rfl) (by decide) rfl (fun ls hl => ?_)
            refine lv_goto (tgt := 13) hx hb dL_say_48 (by decide) ?_
            exact ih_13 _ _ _ _ _ _ _ _ _ h (lv_sub hl [2, 3, 4, 5, 1, 0] rfl) hP hD hS
          have h := ite_f c7 h
          refine lv_aload_n hx hb dL_say_32 rfl (lv_at hl 1 rfl) ?_
          refine lv_iload_n hx hb dL_say_33 rfl (lv_at hl 3 rfl) ?_
          refine lv_iload hx hb dL_say_34 (lv_at hl 5 rfl) ?_
          refine lv_iadd hx hb dL_say_36 ?_
          obtain ⟨hi10, h⟩ := gi_at h
          refine va_bald hx hb hK hP 3 2 rfl rfl hi10 dL_say_37 ?_
          refine lv_goto (tgt := 42) hx hb dL_say_38 (by decide) ?_
          refine lv_ior hx hb dL_say_42 ?_
          refine lv_topi (fun z11 ez11 => ?_)
          have h := nm_at ez11 h
          refine lv_istore (lv' := [(4, .int z11), (0, .ref h_a1), (1, .ref h_a2), (2, .int v2), (3, .int v3), (5, .int v5)]) hx hb dL_say_43 hl (by decide) rfl (fun ls hl => ?_)
          obtain ⟨z12, ez12⟩ : ∃ y : Int32, y = (v5 + (1 : Int32)) := ⟨_, rfl⟩
          have h := nm_at ez12 h
          refine lv_iinc (v := z12) (lv' := [(5, .int z12), (4, .int z11), (0, .ref h_a1), (1, .ref h_a2), (2, .int v2), (3, .int v3)]) hx hb dL_say_45 hl (k := 5) rfl (by rw [ez12]; rfl) (by decide) rfl (fun ls hl => ?_)
          refine lv_goto (tgt := 13) hx hb dL_say_48 (by decide) ?_
          exact ih_13 _ _ _ _ _ _ _ _ _ h (lv_sub hl [2, 3, 4, 5, 1, 0] rfl) hP hD hS
      intro v2 v3 i_a1_text f_a1_text_signs ls H locs h hl hP hD hS
      rw [fL_say_l2_s] at h
      refine lv_iload_n hx hb dL_say_2 rfl (lv_at hl 3 rfl) ?_
      refine lv_iload_n hx hb dL_say_3 rfl (lv_at hl 2 rfl) ?_
      refine lv_icmp_ge (tgt := 64) hx hb dL_say_4 (by decide) (fun c13 => ?_) (fun c13 => ?_)
      · have h := ite_t c13 h
        refine lv_aload_n hx hb dL_say_64 rfl (lv_at hl 0 rfl) ?_
        refine lv_iload_n hx hb dL_say_65 rfl (lv_at hl 2 rfl) ?_
        obtain ⟨r14, i_a1_text_15, hc16, h⟩ := bd2_at h
        refine kjIg (kVg (own := "DateSpansLaw") (C := "DateSpans") (b := h_a1) (As := [.int v2]) (rest := []) ⟨hx, hb, hml, hown, hts⟩ (kX9_end l dC dI cI cJ cB h_a1 h_a1_now h_a1_kept h_a1_told h_a1_text h_a1_script h_a1_momentReader h_a1_spanReader h_a1_adder h_a1_other h_a1_trial h_a1_ways h_a1_text_signs N v2 i_a1 i_a1_text r14 i_a1_text_15 hc16 _) (kgV (kq q_727 rfl) (kq q_728 rfl) (kq q_729 rfl) (kq q_18 rfl) (kq q_730 rfl)) yd_X9_end ⟨Nat.le_of_ble_eq_true rfl, Nat.le_of_ble_eq_true rfl⟩ hN hK hP hD [0, 1] rfl rfl (ci := 8) rfl rfl rfl rfl rfl hl.1 rfl (lv_room (Nat.le_of_ble_eq_true rfl)) dL_say_66 ⟨Nat.le_of_ble_eq_true rfl, Nat.le_of_ble_eq_true rfl⟩) hP hD hS hA [0, 1] rfl rfl (fun H locs hP hD hS => ?_)
        have hP : va_P (dC, dI) vwCl [cl_X9 h_a1 h_a1_now h_a1_kept h_a1_told h_a1_text h_a1_script h_a1_momentReader h_a1_spanReader h_a1_adder h_a1_other h_a1_trial h_a1_ways i_a1, cl_X6 h_a1_text h_a1_text_signs i_a1_text_15, (h_a1_text_signs, .inl (cI, 100, .inl f_a1_text_signs)), (h_a2, .inl (cB, n_a2, .inl f_a2))] H := hP
        have hD : va_D A [cl_X9 h_a1 h_a1_now h_a1_kept h_a1_told h_a1_text h_a1_script h_a1_momentReader h_a1_spanReader h_a1_adder h_a1_other h_a1_trial h_a1_ways i_a1, cl_X6 h_a1_text h_a1_text_signs i_a1_text_15, (h_a1_text_signs, .inl (cI, 100, .inl f_a1_text_signs)), (h_a2, .inl (cB, n_a2, .inl f_a2))] := hD
        refine lv_pop hx hb dL_say_69 rfl ?_
        obtain ⟨rfl, rfl⟩ := pj2 h
        exact hEnd _ _ _ _ hP hS dL_say_70
      have h := ite_f c13 h
      refine lv_iconst (v := (0 : Int32)) hx hb dL_say_7 (by decide) ?_
      refine lv_istore (lv' := [(4, .int (0 : Int32)), (0, .ref h_a1), (1, .ref h_a2), (2, .int v2), (3, .int v3)]) hx hb dL_say_8 hl (by decide) rfl (fun ls hl => ?_)
      refine lv_iconst (v := (0 : Int32)) hx hb dL_say_10 (by decide) ?_
      refine lv_istore (lv' := [(5, .int (0 : Int32)), (4, .int (0 : Int32)), (0, .ref h_a1), (1, .ref h_a2), (2, .int v2), (3, .int v3)]) hx hb dL_say_11 hl (by decide) rfl (fun ls hl => ?_)
      exact LP_13 N _ _ _ _ _ _ _ _ _ h (lv_sub hl [2, 3, 4, 5, 1, 0] rfl) hP hD hS
  have h := hf
  unfold fL_say at h
  refine lv_iconst (v := (0 : Int32)) hx hb dL_say_0 (by decide) ?_
  refine lv_istore_n (lv' := [(3, .int (0 : Int32)), (0, .ref h_a1), (1, .ref h_a2), (2, .int p3)]) hx hb dL_say_1 rfl hl (by decide) rfl (fun ls hl => ?_)
  exact LP_2 N _ _ _ _ _ _ _ h (lv_sub hl [1, 2, 3, 0] rfl) hP hD hS
noncomputable def fL_instant (N : Nat) (p2 : Int32) (i_a1 : Int32) (f_a1_now_day : Nat → Int32) (f_a1_now_second : Nat → Int32) : Option (Int64) := (bd1 (fX9_momentIs N p2 (0 : Int32) i_a1 f_a1_now_day f_a1_now_second) fun r1 => (bd1 (fX9_momentIs N p2 (1 : Int32) i_a1 f_a1_now_day f_a1_now_second) fun r3 => (some (((86400 : Int64) * r1.toInt64) + r3.toInt64))))
set_option maxHeartbeats 4000000 in
set_option maxRecDepth 100000 in
theorem kL_instant (l : Launch) (dC : Nat → ClassId) (dI : Nat → Nat → Nat) (cI cJ cB : ClassId) (h_a1 h_a1_now h_a1_kept h_a1_told h_a1_text h_a1_script h_a1_momentReader h_a1_spanReader h_a1_adder h_a1_other h_a1_trial h_a1_ways h_a1_now_day h_a1_now_second h_a1_now_months h_a1_now_days h_a1_now_seconds : Nat) (N : Nat) (p2 : Int32) (i_a1 : Int32) (f_a1_now_day : Nat → Int32) (f_a1_now_second : Nat → Int32) (r : Int64) (hf : fL_instant N p2 i_a1 f_a1_now_day f_a1_now_second = some r) : ML l yL_instant (kws yL_instant cL_instant 2 (some .long)) (kR 3 66) (dC, dI) (kT cI cJ cB) [.ref h_a1, .int p2] [cl_X9 h_a1 h_a1_now h_a1_kept h_a1_told h_a1_text h_a1_script h_a1_momentReader h_a1_spanReader h_a1_adder h_a1_other h_a1_trial h_a1_ways i_a1, cl_X4 h_a1_now h_a1_now_day h_a1_now_second h_a1_now_months h_a1_now_days h_a1_now_seconds, (h_a1_now_day, .inl (cI, 8, .inl f_a1_now_day)), (h_a1_now_second, .inl (cI, 8, .inl f_a1_now_second))] [cl_X9 h_a1 h_a1_now h_a1_kept h_a1_told h_a1_text h_a1_script h_a1_momentReader h_a1_spanReader h_a1_adder h_a1_other h_a1_trial h_a1_ways i_a1, cl_X4 h_a1_now h_a1_now_day h_a1_now_second h_a1_now_months h_a1_now_days h_a1_now_seconds, (h_a1_now_day, .inl (cI, 8, .inl f_a1_now_day)), (h_a1_now_second, .inl (cI, 8, .inl f_a1_now_second))] r := by
  refine ML.of (cc := cL_instant) (maxL := 2) (by decide) (Nat.le_of_ble_eq_true rfl) (fun p e s m args below meth c A Q ls KC hN hK hP hD hA hl hEnd => ?_)
  obtain ⟨hx, hb, hml, hown, hts⟩ := KC
  have hown : s.vm.findClass "DateSpansLaw" = some m.cls := hown
  have hl : lv_has ls 2 [(0, .ref h_a1), (1, .int p2)] := hl
  have hS : va_S A s.heap s.heap [] := va_S.rf
  have h := hf
  unfold fL_instant at h
  refine lv_ldc2 (v := (86400 : Int64)) hx hb hown (hts _ (kq q_686 rfl)) dL_instant_0 ?_
  refine lv_aload_n hx hb dL_instant_3 rfl (lv_at hl 0 rfl) ?_
  refine lv_iload_n hx hb dL_instant_4 rfl (lv_at hl 1 rfl) ?_
  refine lv_iconst (v := (0 : Int32)) hx hb dL_instant_5 (by decide) ?_
  obtain ⟨r1, hc2, h⟩ := bd1_at h
  refine kjIg (kVg (own := "DateSpansLaw") (C := "DateSpans") (b := h_a1) (As := [.int p2, .int (0 : Int32)]) (rest := [.long (86400 : Int64)]) ⟨hx, hb, hml, hown, hts⟩ (kX9_momentIs l dC dI cI cJ cB h_a1 h_a1_now h_a1_kept h_a1_told h_a1_text h_a1_script h_a1_momentReader h_a1_spanReader h_a1_adder h_a1_other h_a1_trial h_a1_ways h_a1_now_day h_a1_now_second h_a1_now_months h_a1_now_days h_a1_now_seconds N p2 (0 : Int32) i_a1 f_a1_now_day f_a1_now_second r1 hc2 _) (kgV (kq q_300 rfl) (kq q_301 rfl) (kq q_302 rfl) (kq q_18 rfl) (kq q_303 rfl)) yd_X9_momentIs ⟨Nat.le_of_ble_eq_true rfl, Nat.le_of_ble_eq_true rfl⟩ hN hK hP hD [0, 1, 2, 3] rfl rfl (ci := 8) rfl rfl rfl rfl rfl hl.1 rfl (lv_room (Nat.le_of_ble_eq_true rfl)) dL_instant_6 ⟨Nat.le_of_ble_eq_true rfl, Nat.le_of_ble_eq_true rfl⟩) hP hD hS hA [0, 1, 2, 3] rfl rfl (fun H locs hP hD hS => ?_)
  have hP : va_P (dC, dI) vwCl [cl_X9 h_a1 h_a1_now h_a1_kept h_a1_told h_a1_text h_a1_script h_a1_momentReader h_a1_spanReader h_a1_adder h_a1_other h_a1_trial h_a1_ways i_a1, cl_X4 h_a1_now h_a1_now_day h_a1_now_second h_a1_now_months h_a1_now_days h_a1_now_seconds, (h_a1_now_day, .inl (cI, 8, .inl f_a1_now_day)), (h_a1_now_second, .inl (cI, 8, .inl f_a1_now_second))] H := hP
  have hD : va_D A [cl_X9 h_a1 h_a1_now h_a1_kept h_a1_told h_a1_text h_a1_script h_a1_momentReader h_a1_spanReader h_a1_adder h_a1_other h_a1_trial h_a1_ways i_a1, cl_X4 h_a1_now h_a1_now_day h_a1_now_second h_a1_now_months h_a1_now_days h_a1_now_seconds, (h_a1_now_day, .inl (cI, 8, .inl f_a1_now_day)), (h_a1_now_second, .inl (cI, 8, .inl f_a1_now_second))] := hD
  refine lv_i2l hx hb dL_instant_9 rfl ?_
  refine lv_lmul hx hb dL_instant_10 ?_
  refine lv_aload_n hx hb dL_instant_11 rfl (lv_at hl 0 rfl) ?_
  refine lv_iload_n hx hb dL_instant_12 rfl (lv_at hl 1 rfl) ?_
  refine lv_iconst (v := (1 : Int32)) hx hb dL_instant_13 (by decide) ?_
  obtain ⟨r3, hc4, h⟩ := bd1_at h
  refine kjIg (kVg (own := "DateSpansLaw") (C := "DateSpans") (b := h_a1) (As := [.int p2, .int (1 : Int32)]) (rest := [.long ((86400 : Int64) * r1.toInt64)]) ⟨hx, hb, hml, hown, hts⟩ (kX9_momentIs l dC dI cI cJ cB h_a1 h_a1_now h_a1_kept h_a1_told h_a1_text h_a1_script h_a1_momentReader h_a1_spanReader h_a1_adder h_a1_other h_a1_trial h_a1_ways h_a1_now_day h_a1_now_second h_a1_now_months h_a1_now_days h_a1_now_seconds N p2 (1 : Int32) i_a1 f_a1_now_day f_a1_now_second r3 hc4 _) (kgV (kq q_300 rfl) (kq q_301 rfl) (kq q_302 rfl) (kq q_18 rfl) (kq q_303 rfl)) yd_X9_momentIs ⟨Nat.le_of_ble_eq_true rfl, Nat.le_of_ble_eq_true rfl⟩ hN hK hP hD [0, 1, 2, 3] rfl rfl (ci := 8) rfl rfl rfl rfl rfl hl.1 rfl (lv_room (Nat.le_of_ble_eq_true rfl)) dL_instant_14 ⟨Nat.le_of_ble_eq_true rfl, Nat.le_of_ble_eq_true rfl⟩) hP hD hS hA [0, 1, 2, 3] rfl rfl (fun H locs hP hD hS => ?_)
  have hP : va_P (dC, dI) vwCl [cl_X9 h_a1 h_a1_now h_a1_kept h_a1_told h_a1_text h_a1_script h_a1_momentReader h_a1_spanReader h_a1_adder h_a1_other h_a1_trial h_a1_ways i_a1, cl_X4 h_a1_now h_a1_now_day h_a1_now_second h_a1_now_months h_a1_now_days h_a1_now_seconds, (h_a1_now_day, .inl (cI, 8, .inl f_a1_now_day)), (h_a1_now_second, .inl (cI, 8, .inl f_a1_now_second))] H := hP
  have hD : va_D A [cl_X9 h_a1 h_a1_now h_a1_kept h_a1_told h_a1_text h_a1_script h_a1_momentReader h_a1_spanReader h_a1_adder h_a1_other h_a1_trial h_a1_ways i_a1, cl_X4 h_a1_now h_a1_now_day h_a1_now_second h_a1_now_months h_a1_now_days h_a1_now_seconds, (h_a1_now_day, .inl (cI, 8, .inl f_a1_now_day)), (h_a1_now_second, .inl (cI, 8, .inl f_a1_now_second))] := hD
  refine lv_i2l hx hb dL_instant_17 rfl ?_
  refine lv_ladd hx hb dL_instant_18 ?_
  obtain rfl := pj1 h
  exact hEnd _ _ _ _ hP hS dL_instant_19
