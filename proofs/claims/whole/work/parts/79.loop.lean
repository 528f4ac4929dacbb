/-! the law's loop -/
theorem and63 (x : Int32) : ∃ k : Nat, k < 64 ∧ x &&& (63 : Int32) = zI k := by
  have e : (x &&& (63 : Int32)).toBitVec.toNat < 64 := by
    rw [Int32.toBitVec_and, BitVec.toNat_and]
    exact Nat.lt_of_le_of_lt Nat.and_le_right (by decide)
  refine ⟨(x &&& (63 : Int32)).toBitVec.toNat, e, ?_⟩
  generalize x &&& (63 : Int32) = y at e ⊢
  have h1 : y.toInt = (y.toBitVec.toNat : Int) := by
    show y.toBitVec.toInt = _
    rw [BitVec.toInt_eq_toNat_of_lt (by omega)]
  rw [← h1]
  exact (Int32.ofInt_toInt y).symm
section LCS
variable {p : Program} {l : Launch} {e : Env} {s : State} {m : MethodId} {below : List Frame} {meth : Method} {c : Code} {H : Heap} {locs : List Loc} {Q : State → Prop} {cells slots : Nat} {ls : Array Slot}
variable {dC : Nat → ClassId} {dI : Nat → Nat → Nat} {b L : Nat} {xs : Nat → Int32} {cI cJ cB : ClassId} {aK aV sa : Nat} {d0 : Drawn} {h : Nat → Nat}
set_option maxHeartbeats 4000000 in
set_option maxRecDepth 100000 in
theorem law_loop (C : LC p l s m c b L xs (dC, dI) cI cJ cB aK aV sa) (hr : meth.sig.returnType = ret) (hlocks : meth.locks = false) : ∀ (n t cells slots : Nat) (d0 : Drawn) (v_ks v_tl v_ti v_ci v_ui : Int32) (v_f v_g v_a v_b v_c v_f2 v_g2 v_a2 v_b2 v_c2 v_ts v_cs v_mr v_sr v_ad v_ot v_u1 v_u2 v_u3 v_u4 v_wi v_i v_F v_G v_S v_K v_T v_rd v_my v_fi v_pg : Nat → Int32) (v_nn v_uj v_wj v_wu v_j v_R v_le v_o : Nat → Int64) (H : Heap) (locs : List Loc) (ls : Array Slot), cells + n ≤ 1068 → slots + 6 * n ≤ 9109 → L < t + 7 * (n + 1) → t ≤ L + 7 → s.drawn.sameBut d0 lw_cs → Inv v_ks v_tl v_ti v_ci v_ui v_f v_g v_a v_b v_c v_f2 v_g2 v_a2 v_b2 v_c2 v_ts v_cs v_mr v_sr v_ad v_ot v_u1 v_u2 v_u3 v_u4 v_wi v_i v_F v_G v_S v_K v_T v_rd v_my v_fi v_pg v_nn v_uj v_wj v_wu v_j v_R v_le v_o → lv_has ls 8 [(4, .int (zI t)), (3, .ref (h 42)), (2, .ref (h 30)), (1, .ref (h 0)), (0, .ref b)] → va_P (dC, dI) vwCl (BW cI cJ cB h v_ks v_tl v_ti v_ci v_ui v_f v_g v_a v_b v_c v_f2 v_g2 v_a2 v_b2 v_c2 v_ts v_cs v_mr v_sr v_ad v_ot v_u1 v_u2 v_u3 v_u4 v_wi v_i v_F v_G v_S v_K v_T v_rd v_my v_fi v_pg v_nn v_uj v_wj v_wu v_j v_R v_le v_o) H → va_D (lwA s) (BW cI cJ cB h v_ks v_tl v_ti v_ci v_ui v_f v_g v_a v_b v_c v_f2 v_g2 v_a2 v_b2 v_c2 v_ts v_cs v_mr v_sr v_ad v_ot v_u1 v_u2 v_u3 v_u4 v_wi v_i v_F v_G v_S v_K v_T v_rd v_my v_fi v_pg v_nn v_uj v_wj v_wu v_j v_R v_le v_o) → va_S (lwA s) s.heap H locs → W p l e room_1 (s.setDrawn d0) m #[.ref b] below meth c H locs cells slots (lw_Z below #[.ref b] s) (F0 m 23 ls []) := by
  have hL := C.hL
  intro n
  induction n with
  | zero =>
    intro t cells slots d0 v_ks v_tl v_ti v_ci v_ui v_f v_g v_a v_b v_c v_f2 v_g2 v_a2 v_b2 v_c2 v_ts v_cs v_mr v_sr v_ad v_ot v_u1 v_u2 v_u3 v_u4 v_wi v_i v_F v_G v_S v_K v_T v_rd v_my v_fi v_pg v_nn v_uj v_wj v_wu v_j v_R v_le v_o H locs ls h1 h2 h3 h4 hd0 hq hl hP hD hS
    refine lv_iload C.hx C.hb dL_law_23 (lv_at hl 0 rfl) ?_
    refine lv_aload_n C.hx C.hb dL_law_25 rfl (lv_at hl 4 rfl) ?_
    refine va_slen (s := s.setDrawn d0) C.hx C.hb C.hX C.hbl (Nat.not_le.mpr C.hbl) hS dL_law_26 ?_
    refine lv_bipush (v := zI 7) C.hx C.hb dL_law_27 (by decide) ?_
    refine lv_isub C.hx C.hb dL_law_29 ?_
    rw [show Int32.ofNat L = zI (L : Int) from (Int32.ofInt_eq_ofNat).symm, zI_sub]
    refine lv_icmp_gt (tgt := 2361) C.hx C.hb dL_law_30 (by decide) (fun _ => ?_) (fun hge => ?_)
    · refine lv_iconst (v := 1) C.hx C.hb dL_law_2361 (by decide) ?_
      refine va_forget (fun q hq => hS.2.2 q hq) ?_
      exact W.widen (by omega) (by omega) (lw_ret hd0 C.hx C.hb hr hlocks dL_law_2362)
    · rw [zI_lt (by omega) (by omega) (by omega) (by omega)] at hge
      omega
  | succ n ih =>
    intro t cells slots d0 v_ks v_tl v_ti v_ci v_ui v_f v_g v_a v_b v_c v_f2 v_g2 v_a2 v_b2 v_c2 v_ts v_cs v_mr v_sr v_ad v_ot v_u1 v_u2 v_u3 v_u4 v_wi v_i v_F v_G v_S v_K v_T v_rd v_my v_fi v_pg v_nn v_uj v_wj v_wu v_j v_R v_le v_o H locs ls h1 h2 h3 h4 hd0 hq hl hP hD hS
    refine lv_iload C.hx C.hb dL_law_23 (lv_at hl 0 rfl) ?_
    refine lv_aload_n C.hx C.hb dL_law_25 rfl (lv_at hl 4 rfl) ?_
    refine va_slen (s := s.setDrawn d0) C.hx C.hb C.hX C.hbl (Nat.not_le.mpr C.hbl) hS dL_law_26 ?_
    refine lv_bipush (v := zI 7) C.hx C.hb dL_law_27 (by decide) ?_
    refine lv_isub C.hx C.hb dL_law_29 ?_
    rw [show Int32.ofNat L = zI (L : Int) from (Int32.ofInt_eq_ofNat).symm, zI_sub]
    refine lv_icmp_gt (tgt := 2361) C.hx C.hb dL_law_30 (by decide) (fun _ => ?_) (fun hge => ?_)
    · refine lv_iconst (v := 1) C.hx C.hb dL_law_2361 (by decide) ?_
      refine va_forget (fun q hq => hS.2.2 q hq) ?_
      exact W.widen (by omega) (by omega) (lw_ret hd0 C.hx C.hb hr hlocks dL_law_2362)
    rw [zI_lt (by omega) (by omega) (by omega) (by omega)] at hge
    have ht : t + 6 < L := by omega
    have KK : ∀ n' : Nat, n' = n → LK p l e s m below meth c b (dC, dI) cI cJ cB h cells slots (lw_Z below #[.ref b] s) t := by
      intro n' en d v_ks v_tl v_ti v_ci v_ui v_f v_g v_a v_b v_c v_f2 v_g2 v_a2 v_b2 v_c2 v_ts v_cs v_mr v_sr v_ad v_ot v_u1 v_u2 v_u3 v_u4 v_wi v_i v_F v_G v_S v_K v_T v_rd v_my v_fi v_pg v_nn v_uj v_wj v_wu v_j v_R v_le v_o H locs ls hd hq hl hP hD hS
      subst en
      refine lv_iinc (v := zI ((t + 7 : Nat) : Int)) (lv' := [(4, .int (zI ((t + 7 : Nat) : Int))), (3, .ref (h 42)), (2, .ref (h 30)), (1, .ref (h 0)), (0, .ref b)]) C.hx C.hb dL_law_2355 hl (k := 0) rfl (by rw [show Int32.ofInt 7 = zI 7 from rfl, zI_add]; rfl) (by decide) rfl (fun ls hl => ?_)
      refine lv_goto (tgt := 23) C.hx C.hb dL_law_2358 (by decide) ?_
      exact ih (t + 7) (cells + 1) (slots + 6) d v_ks v_tl v_ti v_ci v_ui v_f v_g v_a v_b v_c v_f2 v_g2 v_a2 v_b2 v_c2 v_ts v_cs v_mr v_sr v_ad v_ot v_u1 v_u2 v_u3 v_u4 v_wi v_i v_F v_G v_S v_K v_T v_rd v_my v_fi v_pg v_nn v_uj v_wj v_wu v_j v_R v_le v_o H locs ls (by omega) (by omega) (by omega) (by omega) hd hq hl hP hD hS
    refine lv_aload_n C.hx C.hb dL_law_33 rfl (lv_at hl 4 rfl) ?_
    refine lv_iload C.hx C.hb dL_law_34 (lv_at hl 0 rfl) ?_
    have e9 : (zI (t : Int)).toNatClampNeg = t := by rw [zI_cl (by omega) (by omega)]; omega
    refine va_sld (s := s.setDrawn d0) C.hx C.hb C.hX C.hbl (Nat.not_le.mpr C.hbl) hS ?_ dL_law_36 ?_
    · unfold vp_in
      rw [e9, zl_0, zI_lt (by omega) (by omega) (by omega) (by omega)]
      omega
    rw [e9]
    refine lv_bipush (v := 63) C.hx C.hb dL_law_37 (by decide) ?_
    refine lv_iand C.hx C.hb dL_law_39 ?_
    obtain ⟨k, hk, ek⟩ := and63 (xs t)
    rw [ek]
    by_cases g : k ≤ 48
    · rcases (by omega : k = 0 ∨ k = 1 ∨ k = 2 ∨ k = 3 ∨ k = 4 ∨ k = 5 ∨ k = 6 ∨ k = 7 ∨ k = 8 ∨ k = 9 ∨ k = 10 ∨ k = 11 ∨ k = 12 ∨ k = 13 ∨ k = 14 ∨ k = 15 ∨ k = 16 ∨ k = 17 ∨ k = 18 ∨ k = 19 ∨ k = 20 ∨ k = 21 ∨ k = 22 ∨ k = 23 ∨ k = 24 ∨ k = 25 ∨ k = 26 ∨ k = 27 ∨ k = 28 ∨ k = 29 ∨ k = 30 ∨ k = 31 ∨ k = 32 ∨ k = 33 ∨ k = 34 ∨ k = 35 ∨ k = 36 ∨ k = 37 ∨ k = 38 ∨ k = 39 ∨ k = 40 ∨ k = 41 ∨ k = 42 ∨ k = 43 ∨ k = 44 ∨ k = 45 ∨ k = 46 ∨ k = 47 ∨ k = 48) with rfl | rfl | rfl | rfl | rfl | rfl | rfl | rfl | rfl | rfl | rfl | rfl | rfl | rfl | rfl | rfl | rfl | rfl | rfl | rfl | rfl | rfl | rfl | rfl | rfl | rfl | rfl | rfl | rfl | rfl | rfl | rfl | rfl | rfl | rfl | rfl | rfl | rfl | rfl | rfl | rfl | rfl | rfl | rfl | rfl | rfl | rfl | rfl | rfl
      · exact lv_tableIn (off := 212) (tgt := 252) C.hx C.hb dL_law_40 (by decide) (by decide) (by rfl) (by decide) (lc_sign C hd0 (by omega) hq hl hP hD hS (by omega) (by omega) (KK n rfl))
      · exact lv_tableIn (off := 237) (tgt := 277) C.hx C.hb dL_law_40 (by decide) (by decide) (by rfl) (by decide) (lc_end C hd0 (by omega) hq hl hP hD hS (by omega) (by omega) (KK n rfl))
      · exact lv_tableIn (off := 262) (tgt := 302) C.hx C.hb dL_law_40 (by decide) (by decide) (by rfl) (by decide) (lc_moment C hd0 (by omega) hq hl hP hD hS (by omega) (by omega) (KK n rfl))
      · exact lv_tableIn (off := 287) (tgt := 327) C.hx C.hb dL_law_40 (by decide) (by decide) (by rfl) (by decide) (lc_sets C hd0 (by omega) hq hl hP hD hS (by omega) (by omega) (KK n rfl))
      · exact lv_tableIn (off := 336) (tgt := 376) C.hx C.hb dL_law_40 (by decide) (by decide) (by rfl) (by decide) (lc_span C hd0 (by omega) hq hl hP hD hS (by omega) (by omega) (KK n rfl))
      · exact lv_tableIn (off := 361) (tgt := 401) C.hx C.hb dL_law_40 (by decide) (by decide) (by rfl) (by decide) (lc_parts C hd0 (by omega) hq hl hP hD hS (by omega) (by omega) (KK n rfl))
      · exact lv_tableIn (off := 422) (tgt := 462) C.hx C.hb dL_law_40 (by decide) (by decide) (by rfl) (by decide) (lc_momentIs C hd0 (by omega) hq hl hP hD hS (by omega) (by omega) (KK n rfl))
      · exact lv_tableIn (off := 459) (tgt := 499) C.hx C.hb dL_law_40 (by decide) (by decide) (by rfl) (by decide) (lc_spanIs C hd0 (by omega) hq hl hP hD hS (by omega) (by omega) (KK n rfl))
      · exact lv_tableIn (off := 496) (tgt := 536) C.hx C.hb dL_law_40 (by decide) (by decide) (by rfl) (by decide) (lc_date C hd0 (by omega) hq hl hP hD hS (by omega) (by omega) (KK n rfl))
      · exact lv_tableIn (off := 521) (tgt := 561) C.hx C.hb dL_law_40 (by decide) (by decide) (by rfl) (by decide) (lc_day C hd0 (by omega) hq hl hP hD hS (by omega) (by omega) (KK n rfl))
      · exact lv_tableIn (off := 546) (tgt := 586) C.hx C.hb dL_law_40 (by decide) (by decide) (by rfl) (by decide) (lc_week C hd0 (by omega) hq hl hP hD hS (by omega) (by omega) (KK n rfl))
      · exact lv_tableIn (off := 571) (tgt := 611) C.hx C.hb dL_law_40 (by decide) (by decide) (by rfl) (by decide) (lc_add C hd0 (by omega) hq hl hP hD hS (by omega) (by omega) (KK n rfl))
      · exact lv_tableIn (off := 644) (tgt := 684) C.hx C.hb dL_law_40 (by decide) (by decide) (by rfl) (by decide) (lc_steps C hd0 (by omega) hq hl hP hD hS (by omega) (by omega) (KK n rfl))
      · exact lv_tableIn (off := 731) (tgt := 771) C.hx C.hb dL_law_40 (by decide) (by decide) (by rfl) (by decide) (lc_sum C hd0 (by omega) hq hl hP hD hS (by omega) (by omega) (KK n rfl))
      · exact lv_tableIn (off := 780) (tgt := 820) C.hx C.hb dL_law_40 (by decide) (by decide) (by rfl) (by decide) (lc_turn C hd0 (by omega) hq hl hP hD hS (by omega) (by omega) (KK n rfl))
      · exact lv_tableIn (off := 817) (tgt := 857) C.hx C.hb dL_law_40 (by decide) (by decide) (by rfl) (by decide) (lc_mult C hd0 (by omega) hq hl hP hD hS (by omega) (by omega) (KK n rfl))
      · exact lv_tableIn (off := 866) (tgt := 906) C.hx C.hb dL_law_40 (by decide) (by decide) (by rfl) (by decide) (lc_even C hd0 (by omega) hq hl hP hD hS (by omega) (by omega) (KK n rfl))
      · exact lv_tableIn (off := 903) (tgt := 943) C.hx C.hb dL_law_40 (by decide) (by decide) (by rfl) (by decide) (lc_between C hd0 (by omega) hq hl hP hD hS (by omega) (by omega) (KK n rfl))
      · exact lv_tableIn (off := 976) (tgt := 1016) C.hx C.hb dL_law_40 (by decide) (by decide) (by rfl) (by decide) (lc_least C hd0 (by omega) hq hl hP hD hS (by omega) (by omega) (KK n rfl))
      · exact lv_tableIn (off := 1025) (tgt := 1065) C.hx C.hb dL_law_40 (by decide) (by decide) (by rfl) (by decide) (lc_age C hd0 (by omega) hq hl hP hD hS (by omega) (by omega) (KK n rfl))
      · exact lv_tableIn (off := 1062) (tgt := 1102) C.hx C.hb dL_law_40 (by decide) (by decide) (by rfl) (by decide) (lc_compare C hd0 (by omega) hq hl hP hD hS (by omega) (by omega) (KK n rfl))
      · exact lv_tableIn (off := 1111) (tgt := 1151) C.hx C.hb dL_law_40 (by decide) (by decide) (by rfl) (by decide) (lc_lasts C hd0 (by omega) hq hl hP hD hS (by omega) (by omega) (KK n rfl))
      · exact lv_tableIn (off := 1149) (tgt := 1189) C.hx C.hb dL_law_40 (by decide) (by decide) (by rfl) (by decide) (lc_fails C hd0 (by omega) hq hl hP hD hS (by omega) (by omega) (KK n rfl))
      · exact lv_tableIn (off := 1222) (tgt := 1262) C.hx C.hb dL_law_40 (by decide) (by decide) (by rfl) (by decide) (lc_often C hd0 (by omega) hq hl hP hD hS (by omega) (by omega) (KK n rfl))
      · exact lv_tableIn (off := 1283) (tgt := 1323) C.hx C.hb dL_law_40 (by decide) (by decide) (by rfl) (by decide) (lc_drift C hd0 (by omega) hq hl hP hD hS (by omega) (by omega) (KK n rfl))
      · exact lv_tableIn (off := 1345) (tgt := 1385) C.hx C.hb dL_law_40 (by decide) (by decide) (by rfl) (by decide) (lc_runs C hd0 (by omega) hq hl hP hD hS (by omega) (by omega) (KK n rfl))
      · exact lv_tableIn (off := 1407) (tgt := 1447) C.hx C.hb dL_law_40 (by decide) (by decide) (by rfl) (by decide) (lc_next C hd0 (by omega) hq hl hP hD hS (by omega) (by omega) (KK n rfl))
      · exact lv_tableIn (off := 1468) (tgt := 1508) C.hx C.hb dL_law_40 (by decide) (by decide) (by rfl) (by decide) (lc_falls C hd0 (by omega) hq hl hP hD hS (by omega) (by omega) (KK n rfl))
      · exact lv_tableIn (off := 1541) (tgt := 1581) C.hx C.hb dL_law_40 (by decide) (by decide) (by rfl) (by decide) (lc_nth C hd0 (by omega) hq hl hP hD hS (by omega) (by omega) (KK n rfl))
      · exact lv_tableIn (off := 1602) (tgt := 1642) C.hx C.hb dL_law_40 (by decide) (by decide) (by rfl) (by decide) (lc_workdays C hd0 (by omega) hq hl hP hD hS (by omega) (by omega) (KK n rfl))
      · exact lv_tableIn (off := 1639) (tgt := 1679) C.hx C.hb dL_law_40 (by decide) (by decide) (by rfl) (by decide) (lc_shifts C hd0 (by omega) hq hl hP hD hS (by omega) (by omega) (KK n rfl))
      · exact lv_tableIn (off := 1688) (tgt := 1728) C.hx C.hb dL_law_40 (by decide) (by decide) (by rfl) (by decide) (lc_overlaps C hd0 (by omega) hq hl hP hD hS (by omega) (by omega) (KK n rfl))
      · exact lv_tableIn (off := 1750) (tgt := 1790) C.hx C.hb dL_law_40 (by decide) (by decide) (by rfl) (by decide) (lc_leaps C hd0 (by omega) hq hl hP hD hS (by omega) (by omega) (KK n rfl))
      · exact lv_tableIn (off := 1787) (tgt := 1827) C.hx C.hb dL_law_40 (by decide) (by decide) (by rfl) (by decide) (lc_again C hd0 (by omega) hq hl hP hD hS (by omega) (by omega) (KK n rfl))
      · exact lv_tableIn (off := 1824) (tgt := 1864) C.hx C.hb dL_law_40 (by decide) (by decide) (by rfl) (by decide) (lc_whole C hd0 (by omega) hq hl hP hD hS (by omega) (by omega) (KK n rfl))
      · exact lv_tableIn (off := 1861) (tgt := 1901) C.hx C.hb dL_law_40 (by decide) (by decide) (by rfl) (by decide) (lc_floors C hd0 (by omega) hq hl hP hD hS (by omega) (by omega) (KK n rfl))
      · exact lv_tableIn (off := 1910) (tgt := 1950) C.hx C.hb dL_law_40 (by decide) (by decide) (by rfl) (by decide) (lc_part C hd0 (by omega) hq hl hP hD hS (by omega) (by omega) (KK n rfl))
      · exact lv_tableIn (off := 1983) (tgt := 2023) C.hx C.hb dL_law_40 (by decide) (by decide) (by rfl) (by decide) (lc_mean C hd0 (by omega) hq hl hP hD hS (by omega) (by omega) (KK n rfl))
      · exact lv_tableIn (off := 2008) (tgt := 2048) C.hx C.hb dL_law_40 (by decide) (by decide) (by rfl) (by decide) (lc_sorts C hd0 (by omega) hq hl hP hD hS (by omega) (by omega) (KK n rfl))
      · exact lv_tableIn (off := 2021) (tgt := 2061) C.hx C.hb dL_law_40 (by decide) (by decide) (by rfl) (by decide) (lc_share C hd0 (by omega) hq hl hP hD hS (by omega) (by omega) (KK n rfl))
      · exact lv_tableIn (off := 2059) (tgt := 2099) C.hx C.hb dL_law_40 (by decide) (by decide) (by rfl) (by decide) (lc_ranks C hd0 (by omega) hq hl hP hD hS (by omega) (by omega) (KK n rfl))
      · exact lv_tableIn (off := 2072) (tgt := 2112) C.hx C.hb dL_law_40 (by decide) (by decide) (by rfl) (by decide) (lc_rest C hd0 (by omega) hq hl hP hD hS (by omega) (by omega) (KK n rfl))
      · exact lv_tableIn (off := 2110) (tgt := 2150) C.hx C.hb dL_law_40 (by decide) (by decide) (by rfl) (by decide) (lc_years C hd0 (by omega) hq hl hP hD hS (by omega) (by omega) (KK n rfl))
      · exact lv_tableIn (off := 2135) (tgt := 2175) C.hx C.hb dL_law_40 (by decide) (by decide) (by rfl) (by decide) (lc_written C hd0 (by omega) hq hl hP hD hS (by omega) (by omega) (KK n rfl))
      · exact lv_tableIn (off := 2172) (tgt := 2212) C.hx C.hb dL_law_40 (by decide) (by decide) (by rfl) (by decide) (lc_phrase C hd0 (by omega) hq hl hP hD hS (by omega) (by omega) (KK n rfl))
      · exact lv_tableIn (off := 2209) (tgt := 2249) C.hx C.hb dL_law_40 (by decide) (by decide) (by rfl) (by decide) (lc_keeps C hd0 (by omega) hq hl hP hD hS (by omega) (by omega) (KK n rfl))
      · exact lv_tableIn (off := 2222) (tgt := 2262) C.hx C.hb dL_law_40 (by decide) (by decide) (by rfl) (by decide) (lc_back C hd0 (by omega) hq hl hP hD hS (by omega) (by omega) (KK n rfl))
      · exact lv_tableIn (off := 2235) (tgt := 2275) C.hx C.hb dL_law_40 (by decide) (by decide) (by rfl) (by decide) (lc_count C hd0 (by omega) hq hl hP hD hS (by omega) (by omega) (KK n rfl))
      · exact lv_tableIn (off := 2260) (tgt := 2300) C.hx C.hb dL_law_40 (by decide) (by decide) (by rfl) (by decide) (lc_row C hd0 (by omega) hq hl hP hD hS (by omega) (by omega) (KK n rfl))
    · refine lv_tableOut (tgt := 2355) C.hx C.hb dL_law_40 (Or.inr ?_) (by decide) ?_
      · rw [zI_int (by omega) (by omega)]; omega
      · exact W.widen (Nat.le_succ _) (Nat.le_add_right _ _) (KK n rfl d0 v_ks v_tl v_ti v_ci v_ui v_f v_g v_a v_b v_c v_f2 v_g2 v_a2 v_b2 v_c2 v_ts v_cs v_mr v_sr v_ad v_ot v_u1 v_u2 v_u3 v_u4 v_wi v_i v_F v_G v_S v_K v_T v_rd v_my v_fi v_pg v_nn v_uj v_wj v_wu v_j v_R v_le v_o H locs ls hd0 hq hl hP hD hS)
end LCS
