/-! the row out of its range: the class throws, the law's helper catches -/
abbrev nse : String := "java/util/NoSuchElementException"
abbrev nsN : List String := ["java/lang/RuntimeException", "java/lang/Exception"]
def nsL : List Cond := (Bundle.ownAtomsX "DateSpans" 412 nse 13 prog_29_method_4_code nsN).filter vx_no
abbrev nsB : List Cond := [.declares (Bundle.initS "java/lang/RuntimeException"), .declares (Bundle.initS "java/lang/Exception"), .declares (Bundle.initS Bundle.tN), .castable nse nse]
theorem ns_good : ∀ w ∈ nsL.filter goodWord, w ∈ kW := kin [77, 936, 945, 947, 950, 952, 937, 938, 87, 88, 939, 944, 948, 968, 926, 969, 928, 970, 930, 940, 942, 932, 964, 965, 967, 932, 955, 956, 957, 958, 958, 959, 960, 961, 961, 962, 963, 964, 954, 915, 923, 924, 925, 927, 929, 931, 935, 934, 933] (by decide +kernel) (by decide +kernel)
theorem ns_bad : ∀ w ∈ nsL.filter (fun w => !goodWord w), w ∈ nsB := by decide +kernel
theorem ns_ot : ∀ w ∈ Cond.classLink "DateSpans" 408 nse :: Cond.initialized nse :: nsL, vx_ot w = true := by decide +kernel
def kE (sa : Nat) (A : Nat → Prop) (U : State) (H : Heap) : Prop := vk_R "DateSpans" 410 "no such number of the row" sa U ∧ vx_Zq Bundle.tN "UNASSIGNED_STACK" Bundle.steD A U H ∧ vx_Zq Bundle.tN "SUPPRESSED_SENTINEL" Bundle.listD A U H ∧ va_Nw (.declares (Bundle.initS "java/lang/RuntimeException")) U ∧ va_Nw (.declares (Bundle.initS "java/lang/Exception")) U ∧ va_Nw (.declares (Bundle.initS Bundle.tN)) U ∧ va_Nw (.castable nse nse) U
theorem nw_decl {y : MethodName} {s U : State} (hW : s.WarmedH U.vm) (h : va_Nw (.declares y) s) : va_Nw (.declares y) U := va_tabs rfl (rfl : (s.setVm U.vm).vm = U.vm) ((Cond.declares_setVm (args := #[]) hW.alike y).trans h)
theorem nw_cast {a b : String} {s U : State} (hW : s.WarmedH U.vm) (h : va_Nw (.castable a b) s) : va_Nw (.castable a b) U := va_tabs rfl (rfl : (s.setVm U.vm).vm = U.vm) ((Cond.castable_setVm (args := #[]) hW.alike a b).trans h)
theorem kE.calling {sa : Nat} {A : Nat → Prop} {U : State} {H : Heap} {g : JFrame} {mk : MethodId} {a : Array Value} (h : kE sa A U H) : kE sa A (U.calling g mk a) H := by
  obtain ⟨h1, h2, h3, h4, h5, h6, h7⟩ := h
  exact ⟨vk_R.same (u := U) (U := U.calling g mk a) rfl h1, vx_Zq.moved (u := U) (U := U.calling g mk a) (Vm.Alike.refl U.vm) h2, vx_Zq.moved (u := U) (U := U.calling g mk a) (Vm.Alike.refl U.vm) h3, va_Nw.same rfl (u := U) (U := U.calling g mk a) rfl h4, va_Nw.same rfl (u := U) (U := U.calling g mk a) rfl h5, va_Nw.same rfl (u := U) (U := U.calling g mk a) rfl h6, va_Nw.same rfl (u := U) (U := U.calling g mk a) rfl h7⟩
/-- what a callee sees of it -/
theorem kE.pass {sa : Nat} {A B : Nat → Prop} {s U : State} {H : Heap} {locs : List Loc} (h : kE sa A s s.heap) (hS : va_S A s.heap H locs) (hAB : ∀ q, B q → A q) (hU : U.heap = H) (hW : s.WarmedH U.vm) : kE sa B U U.heap := by
  rw [hU]
  obtain ⟨h1, h2, h3, h4, h5, h6, h7⟩ := h
  exact ⟨vk_R.warm hW h1, ((h2.kept hS.2.1).narrow hAB).moved hW.alike, ((h3.kept hS.2.1).narrow hAB).moved hW.alike, nw_decl hW h4, nw_decl hW h5, nw_decl hW h6, nw_cast hW h7⟩
theorem kE.hat {sa : Nat} {A : Nat → Prop} {s : State} {H : Heap} {args : Array Value} (hts : ∀ w ∈ kW, w.before args s = true) (h : kE sa A s H) : ∀ w ∈ nsL, w.before args s = true := by
  obtain ⟨-, -, -, h4, h5, h6, h7⟩ := h
  exact vx_hat (fun w hw => hts w (ns_good w hw)) ns_bad (vx_c (va_Nw.use rfl h4) (vx_c (va_Nw.use rfl h5) (vx_c (va_Nw.use rfl h6) (vx_c (va_Nw.use rfl h7) vx_n))))
def kPreE (sa : Nat) (D : va_G) (T : List (ClassId × FieldType)) (w : va_W) (sz : Nat) : State → Prop := fun U => kPre D T w sz U ∧ kE sa (va_A w sz) U U.heap
theorem kPreE_blind {sa : Nat} {D : va_G} {T : List (ClassId × FieldType)} {w : va_W} {sz : Nat} {av : List Value} : FrameBlind (va_Pc av (kPreE sa D T w sz)) :=
  fun a U g mk q => ⟨q.1, (kPre_blind (av := av) a U g mk ⟨q.1, q.2.1⟩).2, q.2.2.calling⟩
set_option maxHeartbeats 4000000 in
set_option maxRecDepth 100000 in
theorem kX9_rowX (l : Launch) (sa : Nat) (dC : Nat → ClassId) (dI : Nat → Nat → Nat) (cI cJ cB : ClassId) (h_this h_this_now h_this_kept h_this_told h_this_text h_this_script h_this_momentReader h_this_spanReader h_this_adder h_this_other h_this_trial h_this_ways h_this_told_numbers : Nat) (p1 : Int32) (i_this : Int32) (i_this_told : Int32) (f_this_told_numbers : Nat → Int64) (hl0 : l.stackTraces = false) (hf : p1 < 0 ∨ ¬ p1 < i_this_told) (sz : Nat) : vx_Met l yX9_row (kws yX9_row cX9_row 2 (some .long)) (kRc 6 1 6 82) (va_Pc [.ref h_this, .int p1] (kPreE sa (dC, dI) (kT cI cJ cB) [cl_X9 h_this h_this_now h_this_kept h_this_told h_this_text h_this_script h_this_momentReader h_this_spanReader h_this_adder h_this_other h_this_trial h_this_ways i_this, cl_X3 h_this_told h_this_told_numbers i_this_told, (h_this_told_numbers, .inl (cJ, 8, .inr (.inl f_this_told_numbers)))] sz)) (va_Ql (fun (_ : Int64) (_ : Unit) => False) (fun _ _ => True) (va_A [cl_X9 h_this h_this_now h_this_kept h_this_told h_this_text h_this_script h_this_momentReader h_this_spanReader h_this_adder h_this_other h_this_trial h_this_ways i_this, cl_X3 h_this_told h_this_told_numbers i_this_told, (h_this_told_numbers, .inl (cJ, 8, .inr (.inl f_this_told_numbers)))] sz)) (vx_X (fun (_ : Unit) => True) (fun E _ t => E = nse ∧ va_P (dC, dI) vwCl [cl_X9 h_this h_this_now h_this_kept h_this_told h_this_text h_this_script h_this_momentReader h_this_spanReader h_this_adder h_this_other h_this_trial h_this_ways i_this, cl_X3 h_this_told h_this_told_numbers i_this_told, (h_this_told_numbers, .inl (cJ, 8, .inr (.inl f_this_told_numbers)))] t.heap) (va_A [cl_X9 h_this h_this_now h_this_kept h_this_told h_this_text h_this_script h_this_momentReader h_this_spanReader h_this_adder h_this_other h_this_trial h_this_ways i_this, cl_X3 h_this_told h_this_told_numbers i_this_told, (h_this_told_numbers, .inl (cJ, 8, .inr (.inl f_this_told_numbers)))] sz)) 1 6 (va_A [cl_X9 h_this h_this_now h_this_kept h_this_told h_this_text h_this_script h_this_momentReader h_this_spanReader h_this_adder h_this_other h_this_trial h_this_ways i_this, cl_X3 h_this_told h_this_told_numbers i_this_told, (h_this_told_numbers, .inl (cJ, 8, .inr (.inl f_this_told_numbers)))] sz) := by
  refine vx_ofW (cc := cX9_row) (maxL := 2) (ret := some .long) (by decide) rfl ?_
  intro p e s m args below meth c s₁ B hml hnt hv
  obtain ⟨rfl, ⟨hsz, hP, hK, hD0, hN⟩, hE⟩ := hv
  have hx := B.exec
  have hb := B.bytes
  have hts0 := atoms_spec (ws := kws yX9_row cX9_row 2 (some .long)) B.pre
  have hts : ∀ w ∈ kW, w.before #[.ref h_this, .int p1] s = true := fun w h => hts0 w (List.mem_cons_of_mem _ h)
  have hown : s.vm.findClass "DateSpans" = some m.cls := findClass_of_methodNamed B.named
  have hlocks := B.notSynchronized
  subst hsz
  have hD := hD0.self (sz := s.heap.size)
  have hA : ∀ q : Nat, s.heap.size ≤ q → va_A [cl_X9 h_this h_this_now h_this_kept h_this_told h_this_text h_this_script h_this_momentReader h_this_spanReader h_this_adder h_this_other h_this_trial h_this_ways i_this, cl_X3 h_this_told h_this_told_numbers i_this_told, (h_this_told_numbers, .inl (cJ, 8, .inr (.inl f_this_told_numbers)))] s.heap.size q := fun q h => Or.inr h
  generalize va_A [cl_X9 h_this h_this_now h_this_kept h_this_told h_this_text h_this_script h_this_momentReader h_this_spanReader h_this_adder h_this_other h_this_trial h_this_ways i_this, cl_X3 h_this_told h_this_told_numbers i_this_told, (h_this_told_numbers, .inl (cJ, 8, .inr (.inl f_this_told_numbers)))] s.heap.size = A at hD hE hA ⊢
  have hS : va_S A s.heap s.heap [] := va_S.rf
  have hl := lv_entry ([.ref h_this, .int p1]) (n := 2) (Nat.le_of_ble_eq_true rfl)
  rw [lg_entry_eq]
  generalize (lg_sl ([.ref h_this, .int p1]) ++ List.replicate (2 - (lg_sl ([.ref h_this, .int p1])).length) Slot.unset).toArray = ls at hl ⊢
  have hl : lv_has ls 2 [(0, .ref h_this), (1, .int p1)] := hl
  have thr : ∀ (H : Heap) (locs : List Loc), va_P (dC, dI) vwCl [cl_X9 h_this h_this_now h_this_kept h_this_told h_this_text h_this_script h_this_momentReader h_this_spanReader h_this_adder h_this_other h_this_trial h_this_ways i_this, cl_X3 h_this_told h_this_told_numbers i_this_told, (h_this_told_numbers, .inl (cJ, 8, .inr (.inl f_this_told_numbers)))] H → va_S A s.heap H locs → W p l e (kRc 6 1 6 82) s m #[.ref h_this, .int p1] below meth c H locs 0 0 (vx_MQ below (va_Ql (fun (_ : Int64) (_ : Unit) => False) (fun _ _ => True) A) (vx_X (fun (_ : Unit) => True) (fun E _ t => E = nse ∧ va_P (dC, dI) vwCl [cl_X9 h_this h_this_now h_this_kept h_this_told h_this_text h_this_script h_this_momentReader h_this_spanReader h_this_adder h_this_other h_this_trial h_this_ways i_this, cl_X3 h_this_told h_this_told_numbers i_this_told, (h_this_told_numbers, .inl (cJ, 8, .inr (.inl f_this_told_numbers)))] t.heap) A) #[.ref h_this, .int p1] s 1 6 A) (F0 m 15 ls []) := by
    intro H locs hP hS
    refine cx_throwSW (cls := nse) (names := nsN) (ic := 412) (ix := 13) (rx := prog_29_method_4_code) (A := A) hx hb hl0 (by decide +kernel) (by decide +kernel) (by decide +kernel) (by decide +kernel) hown (by decide +kernel) (by decide +kernel) (hts _ (kq q_914 rfl)) (hts _ (kq (List.mem_of_getElem? (i := 80) (by decide +kernel)) rfl)) hE.1 (hE.hat hts) ns_ot hE.2.1 hE.2.2.1 hS (hl.1.trans hml.symm) dX9_row_15 dX9_row_18 dX9_row_19 dX9_row_22 dX9_row_25 (fun x hx9 => (hnt x hx9).elim) (Nat.le_of_ble_eq_true rfl) (Nat.le_of_ble_eq_true rfl) (Nat.le_of_ble_eq_true rfl) (Nat.le_of_ble_eq_true rfl) hlocks ?_ hS.2.2 (Nat.le_refl _) (Nat.le_refl _)
    intro t hv hz hk
    refine ⟨(), trivial, ⟨rfl, fun k q hq => (hP k q hq).kept (hk q.1 (hP k q hq).lt)⟩, Nat.le_trans hS.1 hz, fun q h1 h2 => ?_⟩
    rw [hk q (Nat.lt_of_lt_of_le h1 hS.1)]
    exact hS.2.1 q h1 h2
  refine lv_iload_n hx hb dX9_row_0 rfl (lv_at hl 1 rfl) ?_
  refine lv_if_lt (tgt := 15) hx hb dX9_row_1 (by decide) (fun c1 => thr _ _ hP hS) (fun c1 => ?_)
  refine lv_iload_n hx hb dX9_row_4 rfl (lv_at hl 1 rfl) ?_
  refine lv_aload_n hx hb dX9_row_5 rfl (lv_at hl 0 rfl) ?_
  refine va_get (D := (dC, dI)) (ci := 8) (v := .ref h_this_told) (C := RX9) (T := TX9) (N := 12) hx hb hts inX9 hown hK hP 0 rfl rfl 3 (by decide) (hts _ (kq q_295 rfl)) (fun _ h9 => h9) rfl dX9_row_6 ?_
  refine kjI (kV (own := "DateSpans") (C := "DateSpans$Row") (b := h_this_told) (As := []) (rest := [.int p1]) ⟨hx, hb, hml, hown, hts⟩ (kX3_length l dC dI cI cJ cB h_this_told h_this_told_numbers 0 i_this_told i_this_told rfl _) (kgV (kq q_902 rfl) (kq q_903 rfl) (kq q_904 rfl) (kq q_59 rfl) (kq q_905 rfl)) yd_X3_length ⟨Nat.le_of_ble_eq_true rfl, Nat.le_of_ble_eq_true rfl⟩ hN hK hP hD [1] rfl rfl (ci := 2) rfl rfl rfl rfl rfl hl.1 rfl (lv_room (Nat.le_of_ble_eq_true rfl)) dX9_row_9) hP hD hS hA [1] rfl rfl (fun H locs hP hD hS => ?_)
  have hP : va_P (dC, dI) vwCl [cl_X9 h_this h_this_now h_this_kept h_this_told h_this_text h_this_script h_this_momentReader h_this_spanReader h_this_adder h_this_other h_this_trial h_this_ways i_this, cl_X3 h_this_told h_this_told_numbers i_this_told, (h_this_told_numbers, .inl (cJ, 8, .inr (.inl f_this_told_numbers)))] H := hP
  refine lv_icmp_lt (tgt := 26) hx hb dX9_row_12 (by decide) (fun c4 => ?_) (fun c4 => thr _ _ hP hS)
  rcases hf with h | h
  · exact absurd h c1
  · exact absurd c4 h
theorem vp_in01 : vp_in (0 : Int32) 1 := by unfold vp_in; decide
/-! the law's helper -/
abbrev kwsH (y : MethodName) (cc : ByteArray) (n : Nat) (ret : Option FieldType) (hh : List (Nat × Nat × Nat × Nat)) : List Cond := Cond.codeWith y cc n ret hh :: kW
theorem Met.ofWH {l : Launch} {y : MethodName} {ws ws' : List Cond} {rm : Room} {Pc : Array Value → State → Prop} {Qc : Array Value → State → Outcome → State → Prop} {mc ms : Nat} {free : Addr → Prop} {cc : ByteArray} {maxL : Nat} {ret : Option FieldType} {hh : List (Nat × Nat × Nat × Nat)}
    (hy : plainName y.cls = true) (hw : ws = Cond.codeWith y cc maxL ret hh :: ws')
    (body : ∀ p e s m args below meth c s₁, BodyLoose p l y (headSpec ws rm) cc maxL ret e s m args below meth c s₁ → c.maxLocals = maxL → Pc args s →
      W p l e (headSpec ws rm).room s m args below meth c s.heap [] 0 0 (MQ below Qc args s mc ms free) (entryFrame m args maxL)) : Met l y ws rm Pc Qc mc ms free := by
  refine MetFree.of_bodyS (code := cc) (maxLocals := maxL) (ret := ret) hy ?_ ?_
  · intro args s m h hn
    obtain ⟨m9, meth, c, hn9, h1, h2, h3, h4, -, h5, h6, -⟩ := Cond.codeWith_spec (atoms_spec (ws := ws) h _ (by rw [hw]; exact List.mem_cons_self))
    cases hn.symm.trans hn9
    exact ⟨meth, c, h1, h2, h3, h4, h5, h6⟩
  · intro p e s m args below meth c s₁ B hml hP _
    have hh0 : s₁.heap = s.heap := by rw [B.state]; rfl
    obtain ⟨t, a1, o, b1, b2, b3⟩ := body p e s m args below meth c s₁ B hml hP s₁ hh0 (Stand.of_body B)
    exact ⟨t, o, a1, b1, b2, ⟨b3.1, b3.2⟩⟩
set_option maxHeartbeats 4000000 in
set_option maxRecDepth 100000 in
theorem kL_rowA (l : Launch) (sa : Nat) (dC : Nat → ClassId) (dI : Nat → Nat → Nat) (cI cJ cB : ClassId) (h_this h_this_now h_this_kept h_this_told h_this_text h_this_script h_this_momentReader h_this_spanReader h_this_adder h_this_other h_this_trial h_this_ways h_this_told_numbers : Nat) (h_out : Nat) (N : Nat) (p1 : Int32) (i_this : Int32) (i_this_told : Int32) (f_this_told_numbers f_out : Nat → Int64) (r : Int64) (hf : fX9_row N p1 i_this i_this_told f_this_told_numbers = some r) (sz : Nat) : Met l yL_row (kwsH yL_row cL_row 4 (some .int) [(0, 8, 11, 13)]) (kR 2 42) (va_Pc [.ref h_this, .int p1, .ref h_out] (kPre (dC, dI) (kT cI cJ cB) [cl_X9 h_this h_this_now h_this_kept h_this_told h_this_text h_this_script h_this_momentReader h_this_spanReader h_this_adder h_this_other h_this_trial h_this_ways i_this, cl_X3 h_this_told h_this_told_numbers i_this_told, (h_this_told_numbers, .inl (cJ, 8, .inr (.inl f_this_told_numbers))), (h_out, .inl (cJ, 1, .inr (.inl f_out)))] sz)) (va_Qi (fun (x : Int32) (_ : Unit) => (0 : Int32) = x) (fun _ t => va_P (dC, dI) vwCl [cl_X9 h_this h_this_now h_this_kept h_this_told h_this_text h_this_script h_this_momentReader h_this_spanReader h_this_adder h_this_other h_this_trial h_this_ways i_this, cl_X3 h_this_told h_this_told_numbers i_this_told, (h_this_told_numbers, .inl (cJ, 8, .inr (.inl f_this_told_numbers))), (h_out, .inl (cJ, 1, .inr (.inl (vp_updL f_out (0 : Int32).toNatClampNeg r))))] t.heap) (va_A [cl_X9 h_this h_this_now h_this_kept h_this_told h_this_text h_this_script h_this_momentReader h_this_spanReader h_this_adder h_this_other h_this_trial h_this_ways i_this, cl_X3 h_this_told h_this_told_numbers i_this_told, (h_this_told_numbers, .inl (cJ, 8, .inr (.inl f_this_told_numbers))), (h_out, .inl (cJ, 1, .inr (.inl f_out)))] sz)) 0 0 (va_A [cl_X9 h_this h_this_now h_this_kept h_this_told h_this_text h_this_script h_this_momentReader h_this_spanReader h_this_adder h_this_other h_this_trial h_this_ways i_this, cl_X3 h_this_told h_this_told_numbers i_this_told, (h_this_told_numbers, .inl (cJ, 8, .inr (.inl f_this_told_numbers))), (h_out, .inl (cJ, 1, .inr (.inl f_out)))] sz) := by
  refine Met.ofWH (cc := cL_row) (maxL := 4) (ret := some .int) (hh := [(0, 8, 11, 13)]) (by decide) rfl ?_
  intro p e s m args below meth c s₁ B hml hv
  obtain ⟨rfl, hsz, hP, hK, hD0, hN⟩ := hv
  have hx := B.exec
  have hb := B.bytes
  have hr := B.returns
  have hts0 := atoms_spec (ws := kwsH yL_row cL_row 4 (some .int) [(0, 8, 11, 13)]) B.pre
  have hts : ∀ w ∈ kW, w.before _ s = true := fun w h => hts0 w (List.mem_cons_of_mem _ h)
  have hown : s.vm.findClass "DateSpansLaw" = some m.cls := findClass_of_methodNamed B.named
  have hlocks := B.notSynchronized
  subst hsz
  have hD := hD0.self (sz := s.heap.size)
  have hA : ∀ q : Nat, s.heap.size ≤ q → va_A [cl_X9 h_this h_this_now h_this_kept h_this_told h_this_text h_this_script h_this_momentReader h_this_spanReader h_this_adder h_this_other h_this_trial h_this_ways i_this, cl_X3 h_this_told h_this_told_numbers i_this_told, (h_this_told_numbers, .inl (cJ, 8, .inr (.inl f_this_told_numbers))), (h_out, .inl (cJ, 1, .inr (.inl f_out)))] s.heap.size q := fun q h => Or.inr h
  have hS : va_S (va_A [cl_X9 h_this h_this_now h_this_kept h_this_told h_this_text h_this_script h_this_momentReader h_this_spanReader h_this_adder h_this_other h_this_trial h_this_ways i_this, cl_X3 h_this_told h_this_told_numbers i_this_told, (h_this_told_numbers, .inl (cJ, 8, .inr (.inl f_this_told_numbers))), (h_out, .inl (cJ, 1, .inr (.inl f_out)))] s.heap.size) s.heap s.heap [] := va_S.rf
  have hl := lv_entry ([.ref h_this, .int p1, .ref h_out]) (n := 4) (Nat.le_of_ble_eq_true rfl)
  rw [lg_entry_eq]
  generalize (lg_sl ([.ref h_this, .int p1, .ref h_out]) ++ List.replicate (4 - (lg_sl ([.ref h_this, .int p1, .ref h_out])).length) Slot.unset).toArray = ls at hl ⊢
  have hl : lv_has ls 4 [(0, .ref h_this), (1, .int p1), (2, .ref h_out)] := hl
  refine lv_aload_n hx hb dL_row_0 rfl (lv_at hl 2 rfl) ?_
  refine lv_iconst (v := 0) hx hb dL_row_1 (by decide) ?_
  refine lv_aload_n hx hb dL_row_2 rfl (lv_at hl 0 rfl) ?_
  refine lv_iload_n hx hb dL_row_3 rfl (lv_at hl 1 rfl) ?_
  refine kjL (kV (own := "DateSpansLaw") (C := "DateSpans") (b := h_this) (As := [.int p1]) (rest := [.int 0, .ref h_out]) ⟨hx, hb, hml, hown, hts⟩ (kX9_row l dC dI cI cJ cB h_this h_this_now h_this_kept h_this_told h_this_text h_this_script h_this_momentReader h_this_spanReader h_this_adder h_this_other h_this_trial h_this_ways h_this_told_numbers N p1 i_this i_this_told f_this_told_numbers r hf _) (kgV (kq q_910 rfl) (kq q_911 rfl) (kq q_912 rfl) (kq q_57 rfl) (kq q_913 rfl)) yd_X9_row ⟨Nat.le_of_ble_eq_true rfl, Nat.le_of_ble_eq_true rfl⟩ hN hK hP hD [0, 1, 2] rfl rfl (ci := 8) rfl rfl rfl rfl rfl hl.1 rfl (lv_room (Nat.le_of_ble_eq_true rfl)) dL_row_4) hP hD hS hA [0, 1, 2] rfl rfl (fun H locs hP hD hS => ?_)
  have hP : va_P (dC, dI) vwCl [cl_X9 h_this h_this_now h_this_kept h_this_told h_this_text h_this_script h_this_momentReader h_this_spanReader h_this_adder h_this_other h_this_trial h_this_ways i_this, cl_X3 h_this_told h_this_told_numbers i_this_told, (h_this_told_numbers, .inl (cJ, 8, .inr (.inl f_this_told_numbers))), (h_out, .inl (cJ, 1, .inr (.inl f_out)))] H := hP
  have hD : va_D (va_A [cl_X9 h_this h_this_now h_this_kept h_this_told h_this_text h_this_script h_this_momentReader h_this_spanReader h_this_adder h_this_other h_this_trial h_this_ways i_this, cl_X3 h_this_told h_this_told_numbers i_this_told, (h_this_told_numbers, .inl (cJ, 8, .inr (.inl f_this_told_numbers))), (h_out, .inl (cJ, 1, .inr (.inl f_out)))] s.heap.size) [cl_X9 h_this h_this_now h_this_kept h_this_told h_this_text h_this_script h_this_momentReader h_this_spanReader h_this_adder h_this_other h_this_trial h_this_ways i_this, cl_X3 h_this_told h_this_told_numbers i_this_told, (h_this_told_numbers, .inl (cJ, 8, .inr (.inl f_this_told_numbers))), (h_out, .inl (cJ, 1, .inr (.inl f_out)))] := hD
  refine va_last hx hb hK hP hD hS 3 1 rfl rfl vp_in01 dL_row_7 (fun H locs hP hD hS => ?_)
  refine lv_goto (tgt := 14) hx hb dL_row_8 (by decide) ?_
  refine lv_iconst (v := 0) hx hb dL_row_14 (by decide) ?_
  exact W.zret hx hb hr rfl (fun t ht hW => ⟨⟨0, (), rfl, rfl, by show va_P (dC, dI) vwCl [cl_X9 h_this h_this_now h_this_kept h_this_told h_this_text h_this_script h_this_momentReader h_this_spanReader h_this_adder h_this_other h_this_trial h_this_ways i_this, cl_X3 h_this_told h_this_told_numbers i_this_told, (h_this_told_numbers, .inl (cJ, 8, .inr (.inl f_this_told_numbers))), (h_out, .inl (cJ, 1, .inr (.inl (vp_updL f_out (0 : Int32).toNatClampNeg r))))] t.heap; rw [ht]; exact hP⟩, hS.F ht⟩) hS.2.2 dL_row_15
set_option maxHeartbeats 4000000 in
set_option maxRecDepth 100000 in
theorem kL_rowB (l : Launch) (sa : Nat) (dC : Nat → ClassId) (dI : Nat → Nat → Nat) (cI cJ cB : ClassId) (h_this h_this_now h_this_kept h_this_told h_this_text h_this_script h_this_momentReader h_this_spanReader h_this_adder h_this_other h_this_trial h_this_ways h_this_told_numbers : Nat) (h_out : Nat) (p1 : Int32) (i_this : Int32) (i_this_told : Int32) (f_this_told_numbers f_out : Nat → Int64) (hl0 : l.stackTraces = false) (hf : p1 < 0 ∨ ¬ p1 < i_this_told) (sz : Nat) : Met l yL_row (kwsH yL_row cL_row 4 (some .int) [(0, 8, 11, 13)]) (kRc 7 1 6 103) (va_Pc [.ref h_this, .int p1, .ref h_out] (kPreE sa (dC, dI) (kT cI cJ cB) [cl_X9 h_this h_this_now h_this_kept h_this_told h_this_text h_this_script h_this_momentReader h_this_spanReader h_this_adder h_this_other h_this_trial h_this_ways i_this, cl_X3 h_this_told h_this_told_numbers i_this_told, (h_this_told_numbers, .inl (cJ, 8, .inr (.inl f_this_told_numbers))), (h_out, .inl (cJ, 1, .inr (.inl f_out)))] sz)) (va_Qi (fun (x : Int32) (_ : Unit) => (1 : Int32) = x) (fun _ t => va_P (dC, dI) vwCl [cl_X9 h_this h_this_now h_this_kept h_this_told h_this_text h_this_script h_this_momentReader h_this_spanReader h_this_adder h_this_other h_this_trial h_this_ways i_this, cl_X3 h_this_told h_this_told_numbers i_this_told, (h_this_told_numbers, .inl (cJ, 8, .inr (.inl f_this_told_numbers))), (h_out, .inl (cJ, 1, .inr (.inl f_out)))] t.heap) (va_A [cl_X9 h_this h_this_now h_this_kept h_this_told h_this_text h_this_script h_this_momentReader h_this_spanReader h_this_adder h_this_other h_this_trial h_this_ways i_this, cl_X3 h_this_told h_this_told_numbers i_this_told, (h_this_told_numbers, .inl (cJ, 8, .inr (.inl f_this_told_numbers))), (h_out, .inl (cJ, 1, .inr (.inl f_out)))] sz)) 1 6 (va_A [cl_X9 h_this h_this_now h_this_kept h_this_told h_this_text h_this_script h_this_momentReader h_this_spanReader h_this_adder h_this_other h_this_trial h_this_ways i_this, cl_X3 h_this_told h_this_told_numbers i_this_told, (h_this_told_numbers, .inl (cJ, 8, .inr (.inl f_this_told_numbers))), (h_out, .inl (cJ, 1, .inr (.inl f_out)))] sz) := by
  refine Met.ofWH (cc := cL_row) (maxL := 4) (ret := some .int) (hh := [(0, 8, 11, 13)]) (by decide) rfl ?_
  intro p e s m args below meth c s₁ B hml hv
  obtain ⟨rfl, ⟨hsz, hP, hK, hD0, hN⟩, hE⟩ := hv
  have hx := B.exec
  have hb := B.bytes
  have hr := B.returns
  have hts0 := atoms_spec (ws := kwsH yL_row cL_row 4 (some .int) [(0, 8, 11, 13)]) B.pre
  have hts : ∀ w ∈ kW, w.before _ s = true := fun w h => hts0 w (List.mem_cons_of_mem _ h)
  have hown : s.vm.findClass "DateSpansLaw" = some m.cls := findClass_of_methodNamed B.named
  have hlocks := B.notSynchronized
  subst hsz
  have hD := hD0.self (sz := s.heap.size)
  have hA : ∀ q : Nat, s.heap.size ≤ q → va_A [cl_X9 h_this h_this_now h_this_kept h_this_told h_this_text h_this_script h_this_momentReader h_this_spanReader h_this_adder h_this_other h_this_trial h_this_ways i_this, cl_X3 h_this_told h_this_told_numbers i_this_told, (h_this_told_numbers, .inl (cJ, 8, .inr (.inl f_this_told_numbers))), (h_out, .inl (cJ, 1, .inr (.inl f_out)))] s.heap.size q := fun q h => Or.inr h
  have hS : va_S (va_A [cl_X9 h_this h_this_now h_this_kept h_this_told h_this_text h_this_script h_this_momentReader h_this_spanReader h_this_adder h_this_other h_this_trial h_this_ways i_this, cl_X3 h_this_told h_this_told_numbers i_this_told, (h_this_told_numbers, .inl (cJ, 8, .inr (.inl f_this_told_numbers))), (h_out, .inl (cJ, 1, .inr (.inl f_out)))] s.heap.size) s.heap s.heap [] := va_S.rf
  have hl := lv_entry ([.ref h_this, .int p1, .ref h_out]) (n := 4) (Nat.le_of_ble_eq_true rfl)
  rw [lg_entry_eq]
  generalize (lg_sl ([.ref h_this, .int p1, .ref h_out]) ++ List.replicate (4 - (lg_sl ([.ref h_this, .int p1, .ref h_out])).length) Slot.unset).toArray = ls at hl ⊢
  have hl : lv_has ls 4 [(0, .ref h_this), (1, .int p1), (2, .ref h_out)] := hl
  refine lv_aload_n hx hb dL_row_0 rfl (lv_at hl 2 rfl) ?_
  refine lv_iconst (v := 0) hx hb dL_row_1 (by decide) ?_
  refine lv_aload_n hx hb dL_row_2 rfl (lv_at hl 0 rfl) ?_
  refine lv_iload_n hx hb dL_row_3 rfl (lv_at hl 1 rfl) ?_
  have htab := vx_table (x := yL_row) B (hts0 _ List.mem_cons_self)
  have hFc := va_free (wc := [cl_X9 h_this h_this_now h_this_kept h_this_told h_this_text h_this_script h_this_momentReader h_this_spanReader h_this_adder h_this_other h_this_trial h_this_ways i_this, cl_X3 h_this_told h_this_told_numbers i_this_told, (h_this_told_numbers, .inl (cJ, 8, .inr (.inl f_this_told_numbers)))]) hD hS hA [0, 1, 2] rfl
  have hPc := kP_sub (wc := [cl_X9 h_this h_this_now h_this_kept h_this_told h_this_text h_this_script h_this_momentReader h_this_spanReader h_this_adder h_this_other h_this_trial h_this_ways i_this, cl_X3 h_this_told h_this_told_numbers i_this_told, (h_this_told_numbers, .inl (cJ, 8, .inr (.inl f_this_told_numbers)))]) hP [0, 1, 2] rfl
  refine vx_calll (vx_runV (own := "DateSpansLaw") (C := "DateSpans") (b := h_this) (As := [.int p1]) (rest := [.int 0, .ref h_out]) (H := s.heap) ⟨hx, hb, hml, hown, hts⟩ (kX9_rowX l sa dC dI cI cJ cB h_this h_this_now h_this_kept h_this_told h_this_text h_this_script h_this_momentReader h_this_spanReader h_this_adder h_this_other h_this_trial h_this_ways h_this_told_numbers p1 i_this i_this_told f_this_told_numbers hl0 hf s.heap.size) (cwV 1 hts (kgV (kq q_910 rfl) (kq q_911 rfl) (kq q_912 rfl) (kq q_57 rfl) (kq q_913 rfl)) rfl rfl rfl yd_X9_row ⟨Nat.le_of_ble_eq_true rfl, Nat.le_of_ble_eq_true rfl⟩) ⟨kPreE_blind, va_recv hK hPc (ci := 8) (q0 := 0) rfl rfl, fun U hU hW => ⟨rfl, (kpre hN hK hP hD [0, 1, 2] rfl rfl (av := [.ref h_this, .int p1]) U hU hW).2, hE.pass hS hFc hU hW⟩⟩ rfl rfl hl.1 rfl (lv_room (Nat.le_of_ble_eq_true rfl)) dL_row_4 ⟨Nat.le_of_ble_eq_true rfl, Nat.le_of_ble_eq_true rfl⟩) hS (fun q _ h => hFc q h) hFc (fun q _ h => hFc q h) (fun E ce q9 u t H1 locs1 ht hvm hp hBX hz hk hS hce hcv hcl => ?_) (fun r u t H1 locs1 ht hvm hp => hp.elim)
  obtain ⟨rfl, hP1⟩ := hBX
  rw [ht] at hP1
  obtain ⟨hP, hD⟩ := kjoin hP hD [0, 1, 2] rfl rfl hk hP1
  have hP : va_P (dC, dI) vwCl [cl_X9 h_this h_this_now h_this_kept h_this_told h_this_text h_this_script h_this_momentReader h_this_spanReader h_this_adder h_this_other h_this_trial h_this_ways i_this, cl_X3 h_this_told h_this_told_numbers i_this_told, (h_this_told_numbers, .inl (cJ, 8, .inr (.inl f_this_told_numbers))), (h_out, .inl (cJ, 1, .inr (.inl f_out)))] H1 := hP
  refine vx_catch (own := "DateSpansLaw") (name := nse) (E := nse) hown [] _ [] htab (fun z hz => nomatch hz) (by decide) (by decide) (hts _ (kq q_909 rfl)) (va_Nw.use rfl hE.2.2.2.2.2.2) hce hcv hcl ?_
  refine lv_astore_n (lv' := [(3, .ref q9), (0, .ref h_this), (1, .int p1), (2, .ref h_out)]) hx hb dL_row_11 rfl hl (by decide) rfl (fun ls hl => ?_)
  refine lv_iconst (v := 1) hx hb dL_row_12 (by decide) ?_
  exact W.zret hx hb hr rfl (fun t ht hW => ⟨⟨1, (), rfl, rfl, by show va_P (dC, dI) vwCl [cl_X9 h_this h_this_now h_this_kept h_this_told h_this_text h_this_script h_this_momentReader h_this_spanReader h_this_adder h_this_other h_this_trial h_this_ways i_this, cl_X3 h_this_told h_this_told_numbers i_this_told, (h_this_told_numbers, .inl (cJ, 8, .inr (.inl f_this_told_numbers))), (h_out, .inl (cJ, 1, .inr (.inl f_out)))] t.heap; rw [ht]; exact hP⟩, hS.F ht⟩) hS.2.2 dL_row_13
