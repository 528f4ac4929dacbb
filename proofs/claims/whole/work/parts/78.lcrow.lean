/-! the law's call of row: its helper catches what the class throws -/

theorem e_thrown (N : Nat) (i : Nat → Int32) (j : Nat → Int64) : fX10_thrown N i j = some (i 9) := rfl
theorem kgSH {own : String} {idx : Nat} {y : MethodName} {cc : ByteArray} {n : Nat} {ret : Option FieldType} {hh : List (Nat × Nat × Nat × Nat)} (h1 : Cond.methodLink own idx y ∈ kW) (h2 : Cond.static y ∈ kW) (h4 : Cond.initialized y.cls ∈ kW) (h5 : Cond.codeWith y cc n ret hh ∈ kW) : GoodIn kW (va_wsS own idx y (kwsH y cc n ret hh)) := by
  refine kgood ?_
  intro w hw
  rcases List.mem_append.mp hw with hw | hw
  · rcases List.mem_cons.mp hw with rfl | hw
    · exact h1
    rcases List.mem_cons.mp hw with rfl | hw
    · exact h2
    rcases List.mem_cons.mp hw with rfl | hw
    · exact h4
    exact absurd hw List.not_mem_nil
  · rcases List.mem_cons.mp hw with rfl | hw
    · exact h5
    · exact hw
section LCS
variable {p : Program} {l : Launch} {e : Env} {s : State} {m : MethodId} {below : List Frame} {meth : Method} {c : Code} {H : Heap} {locs : List Loc} {Q : State → Prop} {cells slots : Nat} {ls : Array Slot}
variable {dC : Nat → ClassId} {dI : Nat → Nat → Nat} {b L : Nat} {xs : Nat → Int32} {cI cJ cB : ClassId} {aK aV sa : Nat} {d0 : Drawn} {h : Nat → Nat}
set_option maxHeartbeats 4000000 in
set_option maxRecDepth 100000 in
theorem lc_row (C : LC p l s m c b L xs (dC, dI) cI cJ cB aK aV sa) (hd0 : s.drawn.sameBut d0 lw_cs) {t : Nat} (ht : t + 6 < L) {v_ks v_tl v_ti v_ci v_ui : Int32} {v_f v_g v_a v_b v_c v_f2 v_g2 v_a2 v_b2 v_c2 v_ts v_cs v_mr v_sr v_ad v_ot v_u1 v_u2 v_u3 v_u4 v_wi v_i v_F v_G v_S v_K v_T v_rd v_my v_fi v_pg : Nat → Int32} {v_nn v_uj v_wj v_wu v_j v_R v_le v_o : Nat → Int64} (hq : Inv v_ks v_tl v_ti v_ci v_ui v_f v_g v_a v_b v_c v_f2 v_g2 v_a2 v_b2 v_c2 v_ts v_cs v_mr v_sr v_ad v_ot v_u1 v_u2 v_u3 v_u4 v_wi v_i v_F v_G v_S v_K v_T v_rd v_my v_fi v_pg v_nn v_uj v_wj v_wu v_j v_R v_le v_o) (hl : lv_has ls 8 [(4, .int (zI t)), (3, .ref (h 42)), (2, .ref (h 30)), (1, .ref (h 0)), (0, .ref b)]) (hP : va_P (dC, dI) vwCl (BW cI cJ cB h v_ks v_tl v_ti v_ci v_ui v_f v_g v_a v_b v_c v_f2 v_g2 v_a2 v_b2 v_c2 v_ts v_cs v_mr v_sr v_ad v_ot v_u1 v_u2 v_u3 v_u4 v_wi v_i v_F v_G v_S v_K v_T v_rd v_my v_fi v_pg v_nn v_uj v_wj v_wu v_j v_R v_le v_o) H) (hD : va_D (lwA s) (BW cI cJ cB h v_ks v_tl v_ti v_ci v_ui v_f v_g v_a v_b v_c v_f2 v_g2 v_a2 v_b2 v_c2 v_ts v_cs v_mr v_sr v_ad v_ot v_u1 v_u2 v_u3 v_u4 v_wi v_i v_F v_G v_S v_K v_T v_rd v_my v_fi v_pg v_nn v_uj v_wj v_wu v_j v_R v_le v_o)) (hS : va_S (lwA s) s.heap H locs) (hcs : cells + 1 ≤ 1068) (hss : slots + 6 ≤ 9109) (K : LK p l e s m below meth c b (dC, dI) cI cJ cB h cells slots Q t) : W p l e room_1 (s.setDrawn d0) m #[.ref b] below meth c H locs cells slots Q (F0 m 2300 ls []) := by
  obtain ⟨dd, ss, mm, da, se, hM, hSp, hR, hT, hC, hK, had, hot, hu1, hu2, hu3, hu4⟩ := hq
  obtain ⟨r, i', e2, e4, e6, e8, e1⟩ := p_row 200000 (Nat.le_refl _) (xs (t + 1)) hR (ks := v_ks) (j := v_j)
  have tail : ∀ (k : Int32) (o' : Nat → Int64) (H : Heap) (locs : List Loc), i' 9 = k → (k = 0 → o' 0 = r) → va_P (dC, dI) vwCl (BW cI cJ cB h v_ks v_tl v_ti v_ci v_ui v_f v_g v_a v_b v_c v_f2 v_g2 v_a2 v_b2 v_c2 v_ts v_cs v_mr v_sr v_ad v_ot v_u1 v_u2 v_u3 v_u4 v_wi v_i v_F v_G v_S v_K v_T v_rd v_my v_fi v_pg v_nn v_uj v_wj v_wu v_j v_R v_le o') H → va_D (lwA s) (BW cI cJ cB h v_ks v_tl v_ti v_ci v_ui v_f v_g v_a v_b v_c v_f2 v_g2 v_a2 v_b2 v_c2 v_ts v_cs v_mr v_sr v_ad v_ot v_u1 v_u2 v_u3 v_u4 v_wi v_i v_F v_G v_S v_K v_T v_rd v_my v_fi v_pg v_nn v_uj v_wj v_wu v_j v_R v_le o') → va_S (lwA s) s.heap H locs → W p l e room_1 (s.setDrawn d0) m #[.ref b] below meth c H locs (cells + 1) (slots + 6) Q (F0 m 2311 ls [.int k]) := by
    intro k o' H locs hk ho hP hD hS
    refine lv_istore (lv' := (5, .int k) :: [(4, .int (zI t)), (3, .ref (h 42)), (2, .ref (h 30)), (1, .ref (h 0)), (0, .ref b)]) C.hx C.hb dL_law_2311 hl (by decide) rfl (fun ls hl => ?_)
    refine lv_aload_n C.hx C.hb dL_law_2313 rfl (lv_at hl 3 rfl) ?_
    refine lwArg (j := 1) C hl 5 1 rfl rfl hS (by omega) dL_law_2314 dL_law_2315 dL_law_2317 dL_law_2318 dL_law_2319 ?_
    refine lwL C (rest := []) (As := [.int (xs (t + 1))]) (ad := h 30) (kX10_row l dC dI cI cJ cB (h 30) (h 31) (h 32) (h 33) (h 34) (h 35) (h 36) (h 37) (h 38) (h 39) (h 40) (h 41) 200000 (xs (t + 1)) v_i v_j v_R _ _ e2) (kgV (kq q_1568 rfl) (kq q_1569 rfl) (kq q_1570 rfl) (kq q_66 rfl) (kq q_1571 rfl)) yd_X10_row ⟨Nat.le_of_ble_eq_true rfl, Nat.le_of_ble_eq_true rfl⟩ hP hD hS [30, 36] rfl rfl rfl (ci := 9) rfl rfl rfl rfl hl.1 rfl (lv_room (Nat.le_of_ble_eq_true rfl)) (by omega) (by omega) dL_law_2320 (fun H locs hP hD hS => ?_)
    have hP : va_P (dC, dI) vwCl (BW cI cJ cB h v_ks v_tl v_ti v_ci v_ui v_f v_g v_a v_b v_c v_f2 v_g2 v_a2 v_b2 v_c2 v_ts v_cs v_mr v_sr v_ad v_ot v_u1 v_u2 v_u3 v_u4 v_wi i' v_F v_G v_S v_K v_T v_rd v_my v_fi v_pg v_nn v_uj v_wj v_wu v_j v_R v_le o') H := hP
    have hD : va_D (lwA s) (BW cI cJ cB h v_ks v_tl v_ti v_ci v_ui v_f v_g v_a v_b v_c v_f2 v_g2 v_a2 v_b2 v_c2 v_ts v_cs v_mr v_sr v_ad v_ot v_u1 v_u2 v_u3 v_u4 v_wi i' v_F v_G v_S v_K v_T v_rd v_my v_fi v_pg v_nn v_uj v_wj v_wu v_j v_R v_le o') := hD
    refine lv_lstore (lv' := (6, .long r) :: (5, .int k) :: [(4, .int (zI t)), (3, .ref (h 42)), (2, .ref (h 30)), (1, .ref (h 0)), (0, .ref b)]) C.hx C.hb dL_law_2323 hl (by decide) rfl (fun ls hl => ?_)
    refine lv_aload_n C.hx C.hb dL_law_2325 rfl (lv_at hl 4 rfl) ?_
    refine lwI C (rest := []) (As := []) (ad := h 30) (kX10_thrown l dC dI cI cJ cB (h 30) (h 31) (h 32) (h 33) (h 34) (h 35) (h 36) (h 37) (h 38) (h 39) (h 40) (h 41) 200000 i' v_j _ (e_thrown _ i' v_j)) (kgV (kq q_1074 rfl) (kq q_1075 rfl) (kq q_1076 rfl) (kq q_66 rfl) (kq q_1077 rfl)) yd_X10_thrown ⟨Nat.le_of_ble_eq_true rfl, Nat.le_of_ble_eq_true rfl⟩ hP hD hS [30] rfl rfl rfl (ci := 9) rfl rfl rfl rfl hl.1 rfl (lv_room (Nat.le_of_ble_eq_true rfl)) (by omega) (by omega) dL_law_2326 (fun H locs hP hD hS => ?_)
    have hP : va_P (dC, dI) vwCl (BW cI cJ cB h v_ks v_tl v_ti v_ci v_ui v_f v_g v_a v_b v_c v_f2 v_g2 v_a2 v_b2 v_c2 v_ts v_cs v_mr v_sr v_ad v_ot v_u1 v_u2 v_u3 v_u4 v_wi i' v_F v_G v_S v_K v_T v_rd v_my v_fi v_pg v_nn v_uj v_wj v_wu v_j v_R v_le o') H := hP
    have hD : va_D (lwA s) (BW cI cJ cB h v_ks v_tl v_ti v_ci v_ui v_f v_g v_a v_b v_c v_f2 v_g2 v_a2 v_b2 v_c2 v_ts v_cs v_mr v_sr v_ad v_ot v_u1 v_u2 v_u3 v_u4 v_wi i' v_F v_G v_S v_K v_T v_rd v_my v_fi v_pg v_nn v_uj v_wj v_wu v_j v_R v_le o') := hD
    have fin : ∀ (ls : Array Slot), lv_has ls 8 [(4, .int (zI t)), (3, .ref (h 42)), (2, .ref (h 30)), (1, .ref (h 0)), (0, .ref b)] → W p l e room_1 (s.setDrawn d0) m #[.ref b] below meth c H locs (cells + 1) (slots + 6) Q (F0 m 2352 ls []) := by
      intro ls hl
      refine lv_goto (tgt := 2355) C.hx C.hb dL_law_2352 (by decide) ?_
      exact K d0 v_ks v_tl v_ti v_ci v_ui v_f v_g v_a v_b v_c v_f2 v_g2 v_a2 v_b2 v_c2 v_ts v_cs v_mr v_sr v_ad v_ot v_u1 v_u2 v_u3 v_u4 v_wi i' v_F v_G v_S v_K v_T v_rd v_my v_fi v_pg v_nn v_uj v_wj v_wu v_j v_R v_le o' H locs ls hd0 ⟨dd, ss, mm, da, se, hM, hSp, hR.cong e8, hT.cong e6, hC, hK.cong e4, had, hot, hu1, hu2, hu3, hu4⟩ hl hP hD hS
    refine lv_iload C.hx C.hb dL_law_2329 (lv_at hl 1 rfl) ?_
    refine lv_icmp_eq (tgt := 2336) C.hx C.hb dL_law_2331 (by decide) (fun _ => ?_) (fun hne => absurd hk hne)
    refine lv_iload C.hx C.hb dL_law_2336 (lv_at hl 1 rfl) ?_
    refine lv_if_ne (tgt := 2352) C.hx C.hb dL_law_2338 (by decide) (fun _ => fin ls (lv_sub hl [2, 3, 4, 5, 6] rfl)) (fun hk0 => ?_)
    refine lv_aload_n C.hx C.hb dL_law_2341 rfl (lv_at hl 3 rfl) ?_
    refine lv_iconst (v := 0) C.hx C.hb dL_law_2342 (by decide) ?_
    refine va_lald C.hx C.hb (C.hK d0) hP 42 1 (f := o') (n := 1) (cA := cJ) rfl rfl vp_in01 dL_law_2343 ?_
    refine lv_lload C.hx C.hb dL_law_2344 (lv_at hl 0 rfl) ?_
    refine W.lcmp C.hx C.hb dL_law_2346 ?_
    rw [show o' (0 : Int32).toNatClampNeg = r from ho hk0, lg_cmp_self]
    exact lv_if_eq (tgt := 2352) C.hx C.hb dL_law_2347 (by decide) (fun _ => fin ls (lv_sub hl [2, 3, 4, 5, 6] rfl)) (fun hne => absurd rfl hne)
  refine lv_aload_n C.hx C.hb dL_law_2300 rfl (lv_at hl 3 rfl) ?_
  refine lwArg (j := 1) C hl 4 0 rfl rfl hS (by omega) dL_law_2301 dL_law_2302 dL_law_2304 dL_law_2305 dL_law_2306 ?_
  refine lv_aload_n C.hx C.hb dL_law_2307 rfl (lv_at hl 1 rfl) ?_
  have ydL : yL_row.cls ≠ "java/lang/invoke/MethodHandle" ∧ yL_row.cls ≠ "java/lang/invoke/VarHandle" ∧ (parseMethodDescriptor yL_row.desc).map (fun d => d.parameters.length) = some 3 := by decide +kernel
  rcases e1 with ⟨e1, e9⟩ | ⟨-, e1, -, e9⟩
  · refine kjIg (mc := 0) (ms := 0) (wc := [_, _, _, _]) (vx_runSW (own := "DateSpansLaw") (As := [.ref (h 0), .int (xs (t + 1)), .ref (h 42)]) (rest := []) (index := 223) ⟨C.hx, C.hb, C.hml, C.hown, C.hts d0⟩ (kL_rowA l sa dC dI cI cJ cB (h 0) (h 1) (h 7) (h 13) (h 15) (h 17) (h 19) (h 20) (h 21) (h 22) (h 23) (h 28) (h 14) (h 42) 200000 (xs (t + 1)) v_ks v_tl v_nn v_o r e1 H.size) (vx_cwSW 3 (C.hts d0) (kgSH (kq q_906 rfl) (kq q_907 rfl) (kq q_56 rfl) (kq q_908 rfl)) rfl rfl rfl ydL ⟨Nat.le_of_ble_eq_true rfl, Nat.le_of_ble_eq_true rfl⟩) ⟨kPre_blind, kpre (C.hN d0) (C.hK d0) hP hD [0, 13, 14, 42] rfl rfl⟩ rfl rfl hl.1 rfl (lv_room (Nat.le_of_ble_eq_true rfl)) dL_law_2308 ⟨by show cells + 0 ≤ 1068; omega, by show slots + 0 ≤ 9109; omega⟩) hP hD hS (fun _ h => h) [0, 13, 14, 42] rfl rfl (fun H locs hP hD hS => ?_)
    refine W.widen (Nat.le_succ _) (Nat.le_add_right _ _) (tail 0 (vp_updL v_o (0 : Int32).toNatClampNeg r) H locs e9 (fun _ => if_pos rfl) hP hD hS)
  · have hF := va_free (wc := [cl_X9 (h 0) (h 1) (h 7) (h 13) (h 15) (h 17) (h 19) (h 20) (h 21) (h 22) (h 23) (h 28) v_ks, cl_X3 (h 13) (h 14) v_tl, (h 14, .inl (cJ, 8, .inr (.inl v_nn))), (h 42, .inl (cJ, 1, .inr (.inl v_o)))]) hD hS (fun _ h => h) [0, 13, 14, 42] rfl
    refine kjIg (mc := 1) (ms := 6) (wc := [_, _, _, _]) (vx_runSW (own := "DateSpansLaw") (As := [.ref (h 0), .int (xs (t + 1)), .ref (h 42)]) (rest := []) (index := 223) ⟨C.hx, C.hb, C.hml, C.hown, C.hts d0⟩ (kL_rowB l sa dC dI cI cJ cB (h 0) (h 1) (h 7) (h 13) (h 15) (h 17) (h 19) (h 20) (h 21) (h 22) (h 23) (h 28) (h 14) (h 42) (xs (t + 1)) v_ks v_tl v_nn v_o C.hl0 e1 H.size) (vx_cwSW 3 (C.hts d0) (kgSH (kq q_906 rfl) (kq q_907 rfl) (kq q_56 rfl) (kq q_908 rfl)) rfl rfl rfl ydL ⟨Nat.le_of_ble_eq_true rfl, Nat.le_of_ble_eq_true rfl⟩) ⟨kPreE_blind, fun U hU hW => ⟨rfl, (kpre (C.hN d0) (C.hK d0) hP hD [0, 13, 14, 42] rfl rfl (av := [.ref (h 0), .int (xs (t + 1)), .ref (h 42)]) U hU hW).2, kE.pass (C.hE d0) hS hF hU hW⟩⟩ rfl rfl hl.1 rfl (lv_room (Nat.le_of_ble_eq_true rfl)) dL_law_2308 ⟨by show cells + 1 ≤ 1068; omega, by show slots + 6 ≤ 9109; omega⟩) hP hD hS (fun _ h => h) [0, 13, 14, 42] rfl rfl (fun H locs hP hD hS => ?_)
    exact tail 1 v_o H locs e9 (fun h9 => absurd h9 (by decide)) hP hD hS
end LCS
