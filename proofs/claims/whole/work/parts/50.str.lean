/-! the reference's text of letters: a String constant's charAt -/
def tx_l : List Int32 := [121, 109, 119, 100, 104, 105, 115]
def tx (k : Nat) : Int32 := tx_l.getD k 0
def kG (aK aV : Nat) (A : Nat → Prop) (U : State) (H : Heap) : Prop := vk_R "DateSpansModel" 187 "ymwdhis" aK U ∧ va_O "java/lang/String" aK A U H ∧ va_OF "java/lang/String" "coder" "B" (.int 0) aK A U H ∧ va_OF "java/lang/String" "value" "[B" (.ref aV) aK A U H ∧ va_T .byte aV 7 (fun j => .int (tx j)) A U H ∧ va_Z "java/lang/String" "COMPACT_STRINGS" "Z" (.int 1) A U H ∧ va_Zq "jdk/internal/util/Preconditions" "SIOOBE_FORMATTER" "Ljava/util/function/BiFunction;" A U H
theorem kG.kept {aK aV : Nat} {A : Nat → Prop} {U : State} {H H1 : Heap} (h : kG aK aV A U H) (hq : ∀ a : Nat, a < H.size → ¬ A a → H1[a]? = H[a]?) : kG aK aV A U H1 := by
  obtain ⟨h1, h2, h3, h4, h5, h6, h7⟩ := h
  exact ⟨h1, h2.kept hq, h3.kept hq, h4.kept hq, h5.kept hq, h6.kept hq, h7.kept hq⟩
theorem kG.narrow {aK aV : Nat} {A B : Nat → Prop} {U : State} {H : Heap} (h : kG aK aV A U H) (hAB : ∀ q, B q → A q) : kG aK aV B U H := by
  obtain ⟨h1, h2, h3, h4, h5, h6, h7⟩ := h
  exact ⟨h1, h2.narrow hAB, h3.narrow hAB, h4.narrow hAB, h5.narrow hAB, h6.narrow hAB, h7.narrow hAB⟩
theorem kG.warm {aK aV : Nat} {A : Nat → Prop} {s U : State} {H : Heap} (hW : s.WarmedH U.vm) (h : kG aK aV A s H) : kG aK aV A U H := by
  obtain ⟨h1, h2, h3, h4, h5, h6, h7⟩ := h
  exact ⟨vk_R.warm hW h1, h2.moved hW.alike, h3.moved hW.alike, h4.moved hW.alike, h5.moved hW.alike, h6.moved hW.alike, h7.moved hW.alike⟩
theorem kG.calling {aK aV : Nat} {A : Nat → Prop} {U : State} {H : Heap} {g : JFrame} {mk : MethodId} {a : Array Value} (h : kG aK aV A U H) : kG aK aV A (U.calling g mk a) H := by
  obtain ⟨h1, h2, h3, h4, h5, h6, h7⟩ := h
  exact ⟨vk_R.same (u := U) (U := U.calling g mk a) rfl h1, va_O.moved (u := U) (U := U.calling g mk a) (Vm.Alike.refl U.vm) h2, va_OF.moved (u := U) (U := U.calling g mk a) (Vm.Alike.refl U.vm) h3, va_OF.moved (u := U) (U := U.calling g mk a) (Vm.Alike.refl U.vm) h4, va_T.moved (u := U) (U := U.calling g mk a) (Vm.Alike.refl U.vm) h5, va_Z.moved (u := U) (U := U.calling g mk a) (Vm.Alike.refl U.vm) h6, va_Zq.moved (u := U) (U := U.calling g mk a) (Vm.Alike.refl U.vm) h7⟩
/-- what a callee sees of it -/
theorem kG.pass {aK aV : Nat} {A B : Nat → Prop} {s U : State} {H : Heap} {locs : List Loc} (h : kG aK aV A s s.heap) (hS : va_S A s.heap H locs) (hAB : ∀ q, B q → A q) (hU : U.heap = H) (hW : s.WarmedH U.vm) : kG aK aV B U U.heap := by
  rw [hU]
  exact ((h.kept hS.2.1).narrow hAB).warm hW
abbrev kF (aK aV : Nat) : State → Prop := fun U => kG aK aV (fun _ => False) U U.heap
def SP (l : Launch) (y : MethodName) (ws : List Cond) (rm : Room) (P : State → Prop) (av : List Value) (r : Int32) : Prop := Met l y ws rm (va_Pc av P) (vp_Si (fun x => r = x)) 0 0 (fun _ => False)
def SPv (l : Launch) (y : MethodName) (ws : List Cond) (rm : Room) (P : State → Prop) (av : List Value) : Prop := Met l y ws rm (va_Pc av P) (fun _ st o t => o = .returned none ∧ t.heap = st.heap) 0 0 (fun _ => False)
section KP
variable {l : Launch} {y : MethodName} {fr lo : Nat} {av : List Value} {cc : ByteArray} {maxL : Nat} {P : State → Prop}
theorem SP.of {ty : FieldType} {r : Int32} (hy : plainName y.cls = true) (hn : (lg_sl av).length ≤ maxL)
    (body : ∀ (p : Program) (e : Env) (s : State) (m : MethodId) (args : Array Value) (below : List Frame) (meth : Method) (c : Code) (Q : State → Prop) (ls : Array Slot), KC p s m args meth c cc maxL y.cls → P s → lv_has ls maxL (lv_args 0 av) →
      (∀ (ls : Array Slot) (pc : Nat), decode cc pc = .ok (.ireturn, 1) → narrow ty (.int r) = .int r → W p l e (kR fr lo) s m args below meth c s.heap [] 0 0 Q (F0 m pc ls [.int r])) →
      W p l e (kR fr lo) s m args below meth c s.heap [] 0 0 Q (F0 m 0 ls [])) : SP l y (kws y cc maxL (some ty)) (kR fr lo) P av r := by
  refine Met.ofW (cc := cc) (maxL := maxL) (ret := some ty) hy rfl ?_
  intro p e s m args below meth c s₁ B hml hv
  obtain ⟨rfl, hP⟩ := hv
  have hx := B.exec
  have hb := B.bytes
  have hr := B.returns
  have hts := atoms_spec (ws := kws y cc maxL (some ty)) B.pre
  have hown : s.vm.findClass y.cls = some m.cls := findClass_of_methodNamed B.named
  have hlocks := B.notSynchronized
  have hl := lv_entry av (n := maxL) hn
  rw [lg_entry_eq]
  generalize (lg_sl av ++ List.replicate (maxL - (lg_sl av).length) Slot.unset).toArray = ls at hl ⊢
  exact body p e s m _ below meth c _ ls ⟨hx, hb, hml, hown, fun w h => hts w (List.mem_cons_of_mem _ h)⟩ hP hl
    (fun ls pc hdg hnr => W.zret hx hb hr hnr (fun t ht hW => ⟨r, rfl, rfl, ht⟩) (fun _ h => absurd h List.not_mem_nil) hdg)
theorem SPv.of (hy : plainName y.cls = true) (hn : (lg_sl av).length ≤ maxL)
    (body : ∀ (p : Program) (e : Env) (s : State) (m : MethodId) (args : Array Value) (below : List Frame) (meth : Method) (c : Code) (Q : State → Prop) (ls : Array Slot), KC p s m args meth c cc maxL y.cls → P s → lv_has ls maxL (lv_args 0 av) →
      (∀ (ls : Array Slot) (pc : Nat), decode cc pc = .ok (.return_, 1) → W p l e (kR fr lo) s m args below meth c s.heap [] 0 0 Q (F0 m pc ls [])) →
      W p l e (kR fr lo) s m args below meth c s.heap [] 0 0 Q (F0 m 0 ls [])) : SPv l y (kws y cc maxL none) (kR fr lo) P av := by
  refine Met.ofW (cc := cc) (maxL := maxL) (ret := none) hy rfl ?_
  intro p e s m args below meth c s₁ B hml hv
  obtain ⟨rfl, hP⟩ := hv
  have hx := B.exec
  have hb := B.bytes
  have hr := B.returns
  have hts := atoms_spec (ws := kws y cc maxL none) B.pre
  have hown : s.vm.findClass y.cls = some m.cls := findClass_of_methodNamed B.named
  have hlocks := B.notSynchronized
  have hl := lv_entry av (n := maxL) hn
  rw [lg_entry_eq]
  generalize (lg_sl av ++ List.replicate (maxL - (lg_sl av).length) Slot.unset).toArray = ls at hl ⊢
  exact body p e s m _ below meth c _ ls ⟨hx, hb, hml, hown, fun w h => hts w (List.mem_cons_of_mem _ h)⟩ hP hl
    (fun ls pc hdg => W.vret hx hb hr (fun t ht hW => ⟨rfl, ht⟩) (fun _ h => absurd h List.not_mem_nil) hdg)
end KP
section KQ
variable {p : Program} {l : Launch} {e : Env} {R : Room} {s : State} {m : MethodId} {args : Array Value} {below : List Frame} {meth : Method} {c : Code} {H : Heap} {locs : List Loc} {Q : State → Prop}
variable {pc : Nat} {ls : Array Slot} {rest st0 : List Value} {a : Array Value} {free : Addr → Prop}
variable {y : MethodName} {bytes cc : ByteArray} {maxL nL n index : Nat} {ret : Option FieldType} {fr lo : Nat} {Qc : Array Value → State → Outcome → State → Prop} {own C : String} {b : Addr} {As : List Value} {g : JFrame} {P : State → Prop}
theorem kjSv (hr : va_Run p l e R s m args below meth c H locs 0 0 0 0 (F0 m pc ls st0) rest (fun st o t => o = .returned none ∧ t.heap = st.heap) (fun _ => False))
    (kk : W p l e R s m args below meth c H locs 0 0 Q (F0 m (pc + 3) ls rest)) : W p l e R s m args below meth c H locs 0 0 Q (F0 m pc ls st0) := by
  intro T hT X
  obtain ⟨v, st₀, t, T', L, h0, X', hL, e1, -, ⟨hv, hh⟩, st⟩ := hr T hT X
  cases hv
  obtain ⟨t2, a1, b1⟩ := kk T' (by rw [e1, hh, h0]) (Stand.forget X' (fun q h => (hL q h).elim))
  exact ⟨t2, st t2 a1, b1⟩
theorem kSP (S : CallFix p m c cc nL s args kW own) (hM : Met l y (kws y bytes maxL ret) (kR fr lo) (va_Pc As P) Qc 0 0 free) (hB : ∀ (U : State) (g : JFrame) (mk : MethodId) (a : Array Value), P U → P (U.calling g mk a)) (hp : ∀ U : State, U.heap = H → s.WarmedH U.vm → P U) (hG : GoodIn kW (va_wsS own index y (kws y bytes maxL ret))) (hd : y.cls ≠ "java/lang/invoke/MethodHandle" ∧ y.cls ≠ "java/lang/invoke/VarHandle" ∧ (parseMethodDescriptor y.desc).map (fun d => d.parameters.length) = some n) (hR : fr + 1 ≤ R.frames ∧ 8 + (maxL + 11) + lo ≤ R.locals)
    (hg : g.method = m) (hna : As.length = n) (hsize : g.locals.size = nL) (hstack : g.stack = As.reverse ++ rest) (hW : 2 * g.monitorRoom + (rest.map fun v => v.category).sum ≤ 8) (hdg : decode cc g.pc = .ok (.invokestatic index, 3)) :
    va_Run p l e R s m args below meth c H locs 0 0 0 0 g rest (Qc As.toArray) free :=
  va_runS S hM (va_cwS n S.2.2.2.2 hG rfl rfl rfl hd hR) ⟨fun _ _ _ _ q => ⟨q.1, hB _ _ _ _ q.2⟩, fun U h1 h2 => ⟨rfl, hp U h1 h2⟩⟩ hg hna hsize hstack hW hdg ⟨Nat.zero_le _, Nat.zero_le _⟩
theorem kVP (S : CallFix p m c cc nL s args kW own) (hM : Met l y (kws y bytes maxL ret) (kR fr lo) (va_Pc (.ref b :: As) P) Qc 0 0 free) (hB : ∀ (U : State) (g : JFrame) (mk : MethodId) (a : Array Value), P U → P (U.calling g mk a)) (hp : ∀ U : State, U.heap = H → s.WarmedH U.vm → P U) (hrc : ∃ cell : Cell, H[b]? = some cell ∧ cell.vm.isStatics = false ∧ s.vm.findClass C = some cell.cls) (hG : GoodIn kW (wsV own index C y (kws y bytes maxL ret))) (hd : y.cls = C ∧ y.cls ≠ "java/lang/invoke/MethodHandle" ∧ y.cls ≠ "java/lang/invoke/VarHandle" ∧ (parseMethodDescriptor y.desc).map (fun d => d.parameters.length) = some n) (hR : fr + 1 ≤ R.frames ∧ 8 + (maxL + 11) + lo ≤ R.locals)
    (hg : g.method = m) (hna : As.length = n) (hsize : g.locals.size = nL) (hstack : g.stack = As.reverse ++ .ref b :: rest) (hW : 2 * g.monitorRoom + (rest.map fun v => v.category).sum ≤ 8) (hdg : decode cc g.pc = .ok (.invokevirtual index, 3)) :
    va_Run p l e R s m args below meth c H locs 0 0 0 0 g rest (Qc (Value.ref b :: As).toArray) free :=
  va_runV S hM (cwV n S.2.2.2.2 hG rfl rfl rfl hd hR) ⟨fun _ _ _ _ q => ⟨q.1, hB _ _ _ _ q.2⟩, hrc, fun U h1 h2 => ⟨rfl, hp U h1 h2⟩⟩ hg hna hsize hstack hW hdg ⟨Nat.zero_le _, Nat.zero_le _⟩
end KQ
theorem ydJ_isLatin1 : yJ0_isLatin1_aae02.cls = "java/lang/String" ∧ yJ0_isLatin1_aae02.cls ≠ "java/lang/invoke/MethodHandle" ∧ yJ0_isLatin1_aae02.cls ≠ "java/lang/invoke/VarHandle" ∧ (parseMethodDescriptor yJ0_isLatin1_aae02.desc).map (fun d => d.parameters.length) = some 0 := by decide +kernel
theorem ydJ_charAt : yJ0_charAt_5068e.cls = "java/lang/String" ∧ yJ0_charAt_5068e.cls ≠ "java/lang/invoke/MethodHandle" ∧ yJ0_charAt_5068e.cls ≠ "java/lang/invoke/VarHandle" ∧ (parseMethodDescriptor yJ0_charAt_5068e.desc).map (fun d => d.parameters.length) = some 1 := by decide +kernel
theorem ydJ_lcharAt : yJ1_charAt_3b067.cls ≠ "java/lang/invoke/MethodHandle" ∧ yJ1_charAt_3b067.cls ≠ "java/lang/invoke/VarHandle" ∧ (parseMethodDescriptor yJ1_charAt_3b067.desc).map (fun d => d.parameters.length) = some 2 := by decide +kernel
theorem ydJ_scheck : yJ0_checkIndex_df160.cls ≠ "java/lang/invoke/MethodHandle" ∧ yJ0_checkIndex_df160.cls ≠ "java/lang/invoke/VarHandle" ∧ (parseMethodDescriptor yJ0_checkIndex_df160.desc).map (fun d => d.parameters.length) = some 2 := by decide +kernel
theorem ydJ_pcheck : yJ3_checkIndex_8e157.cls ≠ "java/lang/invoke/MethodHandle" ∧ yJ3_checkIndex_8e157.cls ≠ "java/lang/invoke/VarHandle" ∧ (parseMethodDescriptor yJ3_checkIndex_8e157.desc).map (fun d => d.parameters.length) = some 3 := by decide +kernel
theorem k_isLatin1 (l : Launch) (aK aV : Nat) : SP l yJ0_isLatin1_aae02 (kws yJ0_isLatin1_aae02 cJ0_isLatin1_aae02 1 (some .boolean)) (kR 0 0) (kF aK aV) [.ref aK] 1 := by
  refine SP.of (cc := cJ0_isLatin1_aae02) (maxL := 1) (by decide) (Nat.le_of_ble_eq_true rfl) (fun p e s m args below meth c Q ls KC hG hl hEnd => ?_)
  obtain ⟨hx, hb, hml, hown, hts⟩ := KC
  have hown : s.vm.findClass "java/lang/String" = some m.cls := hown
  have hl : lv_has ls 1 [(0, .ref aK)] := hl
  obtain ⟨h1, h2, h3, h4, h5, h6, h7⟩ := hG
  have hS : va_S (fun _ => False) s.heap s.heap [] := va_S.rf
  refine va_gets (ref := "java/lang/String") hx hb h6 hS hown (hts _ (kq q_1175 rfl)) (fun _ h9 => h9) dJ0_isLatin1_aae02_0 ?_
  refine lv_if_eq (tgt := 17) hx hb dJ0_isLatin1_aae02_3 (by decide) (fun c => absurd c (by decide)) (fun _ => ?_)
  refine lv_aload_n hx hb dJ0_isLatin1_aae02_6 rfl (lv_at hl 0 rfl) ?_
  refine vk_getf (ref := "java/lang/String") hx hb h3 hS hown (hts _ (kq q_1590 rfl)) (fun _ h9 => h9) dJ0_isLatin1_aae02_7 ?_
  refine lv_if_ne (tgt := 17) hx hb dJ0_isLatin1_aae02_10 (by decide) (fun c => absurd rfl c) (fun _ => ?_)
  refine lv_iconst (v := (1 : Int32)) hx hb dJ0_isLatin1_aae02_13 (by decide) ?_
  refine lv_goto (tgt := 18) hx hb dJ0_isLatin1_aae02_14 (by decide) ?_
  exact hEnd _ _ dJ0_isLatin1_aae02_18 rfl
theorem k_pcheckN (l : Launch) (i n : Int32) (h1 : ¬ i < 0) (h2 : i < n) : SP l yJ3_checkIndex_8e157 (kws yJ3_checkIndex_8e157 cJ3_checkIndex_8e157 3 (some .int)) (kR 0 0) (fun _ => True) [.int i, .int n, .null] i := by
  refine SP.of (cc := cJ3_checkIndex_8e157) (maxL := 3) (by decide) (Nat.le_of_ble_eq_true rfl) (fun p e s m args below meth c Q ls KC hG hl hEnd => ?_)
  obtain ⟨hx, hb, hml, hown, hts⟩ := KC
  have hl : lv_has ls 3 [(0, .int i), (1, .int n), (2, .null)] := hl
  refine lv_iload_n hx hb dJ3_checkIndex_8e157_0 rfl (lv_at hl 0 rfl) ?_
  refine lv_if_lt (tgt := 9) hx hb dJ3_checkIndex_8e157_1 (by decide) (fun c => absurd c h1) (fun _ => ?_)
  refine lv_iload_n hx hb dJ3_checkIndex_8e157_4 rfl (lv_at hl 0 rfl) ?_
  refine lv_iload_n hx hb dJ3_checkIndex_8e157_5 rfl (lv_at hl 1 rfl) ?_
  refine lv_icmp_lt (tgt := 16) hx hb dJ3_checkIndex_8e157_6 (by decide) (fun _ => ?_) (fun c => absurd h2 c)
  refine lv_iload_n hx hb dJ3_checkIndex_8e157_16 rfl (lv_at hl 0 rfl) ?_
  exact hEnd _ _ dJ3_checkIndex_8e157_17 rfl
theorem k_pcheckR (l : Launch) (i n : Int32) (t : Nat) (h1 : ¬ i < 0) (h2 : i < n) : SP l yJ3_checkIndex_8e157 (kws yJ3_checkIndex_8e157 cJ3_checkIndex_8e157 3 (some .int)) (kR 0 0) (fun _ => True) [.int i, .int n, .ref t] i := by
  refine SP.of (cc := cJ3_checkIndex_8e157) (maxL := 3) (by decide) (Nat.le_of_ble_eq_true rfl) (fun p e s m args below meth c Q ls KC hG hl hEnd => ?_)
  obtain ⟨hx, hb, hml, hown, hts⟩ := KC
  have hl : lv_has ls 3 [(0, .int i), (1, .int n), (2, .ref t)] := hl
  refine lv_iload_n hx hb dJ3_checkIndex_8e157_0 rfl (lv_at hl 0 rfl) ?_
  refine lv_if_lt (tgt := 9) hx hb dJ3_checkIndex_8e157_1 (by decide) (fun c => absurd c h1) (fun _ => ?_)
  refine lv_iload_n hx hb dJ3_checkIndex_8e157_4 rfl (lv_at hl 0 rfl) ?_
  refine lv_iload_n hx hb dJ3_checkIndex_8e157_5 rfl (lv_at hl 1 rfl) ?_
  refine lv_icmp_lt (tgt := 16) hx hb dJ3_checkIndex_8e157_6 (by decide) (fun _ => ?_) (fun c => absurd h2 c)
  refine lv_iload_n hx hb dJ3_checkIndex_8e157_16 rfl (lv_at hl 0 rfl) ?_
  exact hEnd _ _ dJ3_checkIndex_8e157_17 rfl
theorem k_scheck (l : Launch) (aK aV : Nat) (i n : Int32) (h1 : ¬ i < 0) (h2 : i < n) : SPv l yJ0_checkIndex_df160 (kws yJ0_checkIndex_df160 cJ0_checkIndex_df160 2 none) (kR 1 22) (kF aK aV) [.int i, .int n] := by
  refine SPv.of (cc := cJ0_checkIndex_df160) (maxL := 2) (by decide) (Nat.le_of_ble_eq_true rfl) (fun p e s m args below meth c Q ls KC hG hl hEnd => ?_)
  obtain ⟨hx, hb, hml, hown, hts⟩ := KC
  have hown : s.vm.findClass "java/lang/String" = some m.cls := hown
  have hl : lv_has ls 2 [(0, .int i), (1, .int n)] := hl
  obtain ⟨-, -, -, -, -, -, h7⟩ := hG
  have hS : va_S (fun _ => False) s.heap s.heap [] := va_S.rf
  refine lv_iload_n hx hb dJ0_checkIndex_df160_0 rfl (lv_at hl 0 rfl) ?_
  refine lv_iload_n hx hb dJ0_checkIndex_df160_1 rfl (lv_at hl 1 rfl) ?_
  rcases h7 with h7 | ⟨t, h7⟩
  · refine va_gets (ref := "jdk/internal/util/Preconditions") hx hb h7 hS hown (hts _ (kq q_1183 rfl)) (fun _ h9 => h9) dJ0_checkIndex_df160_2 ?_
    refine kjSI (kSP (own := "java/lang/String") (As := [.int i, .int n, .null]) (rest := []) ⟨hx, hb, hml, hown, hts⟩ (k_pcheckN l i n h1 h2) (fun _ _ _ _ _ => trivial) (fun _ _ _ => trivial) (kgS (kq q_1185 rfl) (kq q_1186 rfl) (kq q_70 rfl) (kq q_1187 rfl)) ydJ_pcheck ⟨Nat.le_of_ble_eq_true rfl, Nat.le_of_ble_eq_true rfl⟩ rfl rfl hl.1 rfl (lv_room (Nat.le_of_ble_eq_true rfl)) dJ0_checkIndex_df160_5) ?_
    refine lv_pop hx hb dJ0_checkIndex_df160_8 rfl ?_
    exact hEnd _ _ dJ0_checkIndex_df160_9
  · refine va_gets (ref := "jdk/internal/util/Preconditions") hx hb h7 hS hown (hts _ (kq q_1183 rfl)) (fun _ h9 => h9) dJ0_checkIndex_df160_2 ?_
    refine kjSI (kSP (own := "java/lang/String") (As := [.int i, .int n, .ref t]) (rest := []) ⟨hx, hb, hml, hown, hts⟩ (k_pcheckR l i n t h1 h2) (fun _ _ _ _ _ => trivial) (fun _ _ _ => trivial) (kgS (kq q_1185 rfl) (kq q_1186 rfl) (kq q_70 rfl) (kq q_1187 rfl)) ydJ_pcheck ⟨Nat.le_of_ble_eq_true rfl, Nat.le_of_ble_eq_true rfl⟩ rfl rfl hl.1 rfl (lv_room (Nat.le_of_ble_eq_true rfl)) dJ0_checkIndex_df160_5) ?_
    refine lv_pop hx hb dJ0_checkIndex_df160_8 rfl ?_
    exact hEnd _ _ dJ0_checkIndex_df160_9
theorem tx_c : ∀ k, k < 7 → ((tx k &&& (255 : Int32)).toUInt32 % 65536).toInt32 = tx k ∧ narrow .char (.int (tx k)) = .int (tx k) := by decide +kernel
theorem k_lcharAt (l : Launch) (aK aV : Nat) {k : Nat} (hk : k < 7) : SP l yJ1_charAt_3b067 (kws yJ1_charAt_3b067 cJ1_charAt_3b067 2 (some .char)) (kR 2 43) (kF aK aV) [.ref aV, .int (zI k)] (tx k) := by
  refine SP.of (cc := cJ1_charAt_3b067) (maxL := 2) (by decide) (Nat.le_of_ble_eq_true rfl) (fun p e s m args below meth c Q ls KC hG hl hEnd => ?_)
  obtain ⟨hx, hb, hml, hown, hts⟩ := KC
  have hown : s.vm.findClass "java/lang/StringLatin1" = some m.cls := hown
  have hl : lv_has ls 2 [(0, .ref aV), (1, .int (zI k))] := hl
  have hG0 := hG
  obtain ⟨-, -, -, -, h5, -, -⟩ := hG
  have hS : va_S (fun _ => False) s.heap s.heap [] := va_S.rf
  refine lv_iload_n hx hb dJ1_charAt_3b067_0 rfl (lv_at hl 1 rfl) ?_
  refine lv_aload_n hx hb dJ1_charAt_3b067_1 rfl (lv_at hl 0 rfl) ?_
  refine va_tlen (v := zI 7) hx hb h5 hS (by decide) dJ1_charAt_3b067_2 ?_
  refine kjSv (kSP (own := "java/lang/StringLatin1") (As := [.int (zI k), .int (zI 7)]) (rest := []) ⟨hx, hb, hml, hown, hts⟩ (k_scheck l aK aV (zI k) (zI 7) (i_nlt (b := 0) (by decide) (by omega)) (i_lt rfl (by omega))) (fun _ _ _ _ h => h.calling) (fun U hU hW => hG0.pass hS (fun _ h => h) hU hW) (kgS (kq q_1180 rfl) (kq q_1181 rfl) (kq q_68 rfl) (kq q_1182 rfl)) ydJ_scheck ⟨Nat.le_of_ble_eq_true rfl, Nat.le_of_ble_eq_true rfl⟩ rfl rfl hl.1 rfl (lv_room (Nat.le_of_ble_eq_true rfl)) dJ1_charAt_3b067_3) ?_
  refine lv_aload_n hx hb dJ1_charAt_3b067_6 rfl (lv_at hl 0 rfl) ?_
  refine lv_iload_n hx hb dJ1_charAt_3b067_7 rfl (lv_at hl 1 rfl) ?_
  refine va_tb (v := .int (tx k)) hx hb h5 hS (i := zI k) (show vp_in (zI k) 7 from fun h => by
    rcases h with h | h
    · exact i_nlt (b := 0) (by decide) (by omega) h
    · rw [zI_cl (by omega) (by omega)] at h; omega) (by rw [zI_cl (by omega) (by omega), tn1]) dJ1_charAt_3b067_8 ?_
  refine lv_sipush (v := (255 : Int32)) hx hb dJ1_charAt_3b067_9 (by decide) ?_
  refine lv_iand hx hb dJ1_charAt_3b067_12 ?_
  refine lv_i2c hx hb dJ1_charAt_3b067_13 (tx_c k hk).1 ?_
  exact hEnd _ _ dJ1_charAt_3b067_14 (tx_c k hk).2
theorem k_charAt (l : Launch) (aK aV : Nat) {k : Nat} (hk : k < 7) : SP l yJ0_charAt_5068e (kws yJ0_charAt_5068e cJ0_charAt_5068e 2 (some .char)) (kR 3 64) (kF aK aV) [.ref aK, .int (zI k)] (tx k) := by
  refine SP.of (cc := cJ0_charAt_5068e) (maxL := 2) (by decide) (Nat.le_of_ble_eq_true rfl) (fun p e s m args below meth c Q ls KC hG hl hEnd => ?_)
  obtain ⟨hx, hb, hml, hown, hts⟩ := KC
  have hown : s.vm.findClass "java/lang/String" = some m.cls := hown
  have hl : lv_has ls 2 [(0, .ref aK), (1, .int (zI k))] := hl
  have hG0 := hG
  obtain ⟨-, h2, -, h4, h5, -, -⟩ := hG
  have hS : va_S (fun _ => False) s.heap s.heap [] := va_S.rf
  have hrc : ∃ cell : Cell, s.heap[aK]? = some cell ∧ cell.vm.isStatics = false ∧ s.vm.findClass "java/lang/String" = some cell.cls := by
    obtain ⟨cell, g1, g2, g3, -⟩ := h2
    exact ⟨cell, g1, g2, g3⟩
  refine lv_aload_n hx hb dJ0_charAt_5068e_0 rfl (lv_at hl 0 rfl) ?_
  refine kjSI (kVP (own := "java/lang/String") (C := "java/lang/String") (b := aK) (As := []) (rest := []) ⟨hx, hb, hml, hown, hts⟩ (k_isLatin1 l aK aV) (fun _ _ _ _ h => h.calling) (fun U hU hW => hG0.pass hS (fun _ h => h) hU hW) hrc (kgV (kq q_1171 rfl) (kq q_1172 rfl) (kq q_1173 rfl) (kq q_68 rfl) (kq q_1174 rfl)) ydJ_isLatin1 ⟨Nat.le_of_ble_eq_true rfl, Nat.le_of_ble_eq_true rfl⟩ rfl rfl hl.1 rfl (lv_room (Nat.le_of_ble_eq_true rfl)) dJ0_charAt_5068e_1) ?_
  refine lv_if_eq (tgt := 16) hx hb dJ0_charAt_5068e_4 (by decide) (fun c => absurd c (by decide)) (fun _ => ?_)
  refine lv_aload_n hx hb dJ0_charAt_5068e_7 rfl (lv_at hl 0 rfl) ?_
  refine vk_getf (ref := "java/lang/String") hx hb h4 hS hown (hts _ (kq q_1591 rfl)) (fun _ h9 => h9) dJ0_charAt_5068e_8 ?_
  refine lv_iload_n hx hb dJ0_charAt_5068e_11 rfl (lv_at hl 1 rfl) ?_
  refine kjSI (kSP (own := "java/lang/String") (As := [.ref aV, .int (zI k)]) (rest := []) ⟨hx, hb, hml, hown, hts⟩ (k_lcharAt l aK aV hk) (fun _ _ _ _ h => h.calling) (fun U hU hW => hG0.pass hS (fun _ h => h) hU hW) (kgS (kq q_1177 rfl) (kq q_1178 rfl) (kq q_69 rfl) (kq q_1179 rfl)) ydJ_lcharAt ⟨Nat.le_of_ble_eq_true rfl, Nat.le_of_ble_eq_true rfl⟩ rfl rfl hl.1 rfl (lv_room (Nat.le_of_ble_eq_true rfl)) dJ0_charAt_5068e_12) ?_
  exact hEnd _ _ dJ0_charAt_5068e_15 (tx_c k hk).2
theorem ydX10_letter : yX10_letter.cls ≠ "java/lang/invoke/MethodHandle" ∧ yX10_letter.cls ≠ "java/lang/invoke/VarHandle" ∧ (parseMethodDescriptor yX10_letter.desc).map (fun d => d.parameters.length) = some 1 := by decide +kernel
theorem k_letter (l : Launch) (aK aV : Nat) {k : Nat} (hk : k < 7) : SP l yX10_letter (kws yX10_letter cX10_letter 1 (some .char)) (kR 4 85) (kF aK aV) [.int (zI k)] (tx k) := by
  refine SP.of (cc := cX10_letter) (maxL := 1) (by decide) (Nat.le_of_ble_eq_true rfl) (fun p e s m args below meth c Q ls KC hG hl hEnd => ?_)
  obtain ⟨hx, hb, hml, hown, hts⟩ := KC
  have hown : s.vm.findClass "DateSpansModel" = some m.cls := hown
  have hl : lv_has ls 1 [(0, .int (zI k))] := hl
  have hG0 := hG
  obtain ⟨h1, h2, -, -, -, -, -⟩ := hG
  have hS : va_S (fun _ => False) s.heap s.heap [] := va_S.rf
  have hrc : ∃ cell : Cell, s.heap[aK]? = some cell ∧ cell.vm.isStatics = false ∧ s.vm.findClass "java/lang/String" = some cell.cls := by
    obtain ⟨cell, g1, g2, g3, -⟩ := h2
    exact ⟨cell, g1, g2, g3⟩
  refine va_ldcS hx hb hown h1 dX10_letter_0 ?_
  refine lv_iload_n hx hb dX10_letter_2 rfl (lv_at hl 0 rfl) ?_
  refine kjSI (kVP (own := "DateSpansModel") (C := "java/lang/String") (b := aK) (As := [.int (zI k)]) (rest := []) ⟨hx, hb, hml, hown, hts⟩ (k_charAt l aK aV hk) (fun _ _ _ _ h => h.calling) (fun U hU hW => hG0.pass hS (fun _ h => h) hU hW) hrc (kgV (kq q_1167 rfl) (kq q_1168 rfl) (kq q_1169 rfl) (kq q_68 rfl) (kq q_1170 rfl)) ydJ_charAt ⟨Nat.le_of_ble_eq_true rfl, Nat.le_of_ble_eq_true rfl⟩ rfl rfl hl.1 rfl (lv_room (Nat.le_of_ble_eq_true rfl)) dX10_letter_3) ?_
  exact hEnd _ _ dX10_letter_6 (tx_c k hk).2
