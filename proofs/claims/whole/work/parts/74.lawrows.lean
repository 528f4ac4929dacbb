/-! the law's rows: calls over the big world, arguments out of the script -/
abbrev lwA (s : State) : Nat → Prop := fun q => s.heap.size ≤ q
/-- what holds all along the law's walk -/
def LC (p : Program) (l : Launch) (s : State) (m : MethodId) (c : Code) (b L : Nat) (xs : Nat → Int32) (D : va_G) (cI cJ cB : ClassId) (aK aV sa : Nat) : Prop :=
  (p.tables.exec = Jvm.exec) ∧ (c.code = cL_law) ∧ (c.maxLocals = 8) ∧ (s.vm.findClass "DateSpansLaw" = some m.cls) ∧ (∀ (d : Drawn), ∀ w ∈ kW, w.before #[.ref b] (s.setDrawn d) = true) ∧ (va_X b L xs s s.heap) ∧ (b < s.heap.size) ∧ (∀ d : Drawn, va_K D vwCl (kT cI cJ cB) (s.setDrawn d)) ∧ (∀ d : Drawn, kN (s.setDrawn d)) ∧ (∀ d : Drawn, kG aK aV (lwA s) (s.setDrawn d) s.heap) ∧ (∀ d : Drawn, kE sa (lwA s) (s.setDrawn d) s.heap) ∧ (l.stackTraces = false) ∧ (L ≤ 3584)
theorem LC.hx {p : Program} {l : Launch} {s : State} {m : MethodId} {c : Code} {b L : Nat} {xs : Nat → Int32} {D : va_G} {cI cJ cB : ClassId} {aK aV sa : Nat} (C : LC p l s m c b L xs D cI cJ cB aK aV sa) : p.tables.exec = Jvm.exec := C.1
theorem LC.hb {p : Program} {l : Launch} {s : State} {m : MethodId} {c : Code} {b L : Nat} {xs : Nat → Int32} {D : va_G} {cI cJ cB : ClassId} {aK aV sa : Nat} (C : LC p l s m c b L xs D cI cJ cB aK aV sa) : c.code = cL_law := C.2.1
theorem LC.hml {p : Program} {l : Launch} {s : State} {m : MethodId} {c : Code} {b L : Nat} {xs : Nat → Int32} {D : va_G} {cI cJ cB : ClassId} {aK aV sa : Nat} (C : LC p l s m c b L xs D cI cJ cB aK aV sa) : c.maxLocals = 8 := C.2.2.1
theorem LC.hown {p : Program} {l : Launch} {s : State} {m : MethodId} {c : Code} {b L : Nat} {xs : Nat → Int32} {D : va_G} {cI cJ cB : ClassId} {aK aV sa : Nat} (C : LC p l s m c b L xs D cI cJ cB aK aV sa) : s.vm.findClass "DateSpansLaw" = some m.cls := C.2.2.2.1
theorem LC.hts {p : Program} {l : Launch} {s : State} {m : MethodId} {c : Code} {b L : Nat} {xs : Nat → Int32} {D : va_G} {cI cJ cB : ClassId} {aK aV sa : Nat} (C : LC p l s m c b L xs D cI cJ cB aK aV sa) : ∀ (d : Drawn), ∀ w ∈ kW, w.before #[.ref b] (s.setDrawn d) = true := C.2.2.2.2.1
theorem LC.hX {p : Program} {l : Launch} {s : State} {m : MethodId} {c : Code} {b L : Nat} {xs : Nat → Int32} {D : va_G} {cI cJ cB : ClassId} {aK aV sa : Nat} (C : LC p l s m c b L xs D cI cJ cB aK aV sa) : va_X b L xs s s.heap := C.2.2.2.2.2.1
theorem LC.hbl {p : Program} {l : Launch} {s : State} {m : MethodId} {c : Code} {b L : Nat} {xs : Nat → Int32} {D : va_G} {cI cJ cB : ClassId} {aK aV sa : Nat} (C : LC p l s m c b L xs D cI cJ cB aK aV sa) : b < s.heap.size := C.2.2.2.2.2.2.1
theorem LC.hK {p : Program} {l : Launch} {s : State} {m : MethodId} {c : Code} {b L : Nat} {xs : Nat → Int32} {D : va_G} {cI cJ cB : ClassId} {aK aV sa : Nat} (C : LC p l s m c b L xs D cI cJ cB aK aV sa) : ∀ d : Drawn, va_K D vwCl (kT cI cJ cB) (s.setDrawn d) := C.2.2.2.2.2.2.2.1
theorem LC.hN {p : Program} {l : Launch} {s : State} {m : MethodId} {c : Code} {b L : Nat} {xs : Nat → Int32} {D : va_G} {cI cJ cB : ClassId} {aK aV sa : Nat} (C : LC p l s m c b L xs D cI cJ cB aK aV sa) : ∀ d : Drawn, kN (s.setDrawn d) := C.2.2.2.2.2.2.2.2.1
theorem LC.hG {p : Program} {l : Launch} {s : State} {m : MethodId} {c : Code} {b L : Nat} {xs : Nat → Int32} {D : va_G} {cI cJ cB : ClassId} {aK aV sa : Nat} (C : LC p l s m c b L xs D cI cJ cB aK aV sa) : ∀ d : Drawn, kG aK aV (lwA s) (s.setDrawn d) s.heap := C.2.2.2.2.2.2.2.2.2.1
theorem LC.hE {p : Program} {l : Launch} {s : State} {m : MethodId} {c : Code} {b L : Nat} {xs : Nat → Int32} {D : va_G} {cI cJ cB : ClassId} {aK aV sa : Nat} (C : LC p l s m c b L xs D cI cJ cB aK aV sa) : ∀ d : Drawn, kE sa (lwA s) (s.setDrawn d) s.heap := C.2.2.2.2.2.2.2.2.2.2.1
theorem LC.hl0 {p : Program} {l : Launch} {s : State} {m : MethodId} {c : Code} {b L : Nat} {xs : Nat → Int32} {D : va_G} {cI cJ cB : ClassId} {aK aV sa : Nat} (C : LC p l s m c b L xs D cI cJ cB aK aV sa) : l.stackTraces = false := C.2.2.2.2.2.2.2.2.2.2.2.1
theorem LC.hL {p : Program} {l : Launch} {s : State} {m : MethodId} {c : Code} {b L : Nat} {xs : Nat → Int32} {D : va_G} {cI cJ cB : ClassId} {aK aV sa : Nat} (C : LC p l s m c b L xs D cI cJ cB aK aV sa) : L ≤ 3584 := C.2.2.2.2.2.2.2.2.2.2.2.2
theorem lg_cmp_self (r : Int64) : lg_cmp r r = 0 := by
  unfold lg_cmp
  simp
section LW
variable {p : Program} {l : Launch} {e : Env} {R : Room} {s : State} {m : MethodId} {args : Array Value} {below : List Frame} {meth : Method} {c : Code} {H : Heap} {locs : List Loc} {Q : State → Prop} {cells slots mc ms : Nat}
variable {pc : Nat} {ls : Array Slot} {rest st0 : List Value} {a : Array Value} {A0 : Nat → Prop} {H0 : Heap} {free : Addr → Prop}
variable {D : va_G} {T : List (ClassId × FieldType)} {w wc w1 : va_W}
theorem kjIg {r : Int32} (hr : va_Run p l e R s m args below meth c H locs cells slots mc ms (F0 m pc ls st0) rest (va_Qi (fun (x : Int32) (_ : Unit) => r = x) (fun _ t => va_P D vwCl w1 t.heap) (va_A wc H.size) a) (va_A wc H.size)) (hP : va_P D vwCl w H) (hD : va_D A0 w) (hS : va_S A0 H0 H locs) (hA : ∀ q, H0.size ≤ q → A0 q) (isC : List Nat) (hC : isC.map (fun i => w[i]?) = wc.map some) (hw : w1.map Prod.fst = wc.map Prod.fst)
    (kk : ∀ (H1 : Heap) (locs1 : List Loc), va_P D vwCl (kput w isC w1) H1 → va_D A0 (kput w isC w1) → va_S A0 H0 H1 locs1 → W p l e R s m args below meth c H1 locs1 (cells + mc) (slots + ms) Q (F0 m (pc + 3) ls (.int r :: rest))) : W p l e R s m args below meth c H locs cells slots Q (F0 m pc ls st0) := by
  have hF := va_free (wc := wc) hD hS hA isC hC
  refine va_calli hr hS (fun q _ h => hF q h) hF (fun x u t H1 locs1 ht hvm hx hB hz hk hS => ?_)
  subst hx
  rw [ht] at hB
  obtain ⟨g1, g2⟩ := kjoin hP hD isC hC hw hk hB
  exact kk H1 locs1 g1 g2 hS
theorem kjLg {r : Int64} (hr : va_Run p l e R s m args below meth c H locs cells slots mc ms (F0 m pc ls st0) rest (va_Ql (fun (x : Int64) (_ : Unit) => r = x) (fun _ t => va_P D vwCl w1 t.heap) (va_A wc H.size) a) (va_A wc H.size)) (hP : va_P D vwCl w H) (hD : va_D A0 w) (hS : va_S A0 H0 H locs) (hA : ∀ q, H0.size ≤ q → A0 q) (isC : List Nat) (hC : isC.map (fun i => w[i]?) = wc.map some) (hw : w1.map Prod.fst = wc.map Prod.fst)
    (kk : ∀ (H1 : Heap) (locs1 : List Loc), va_P D vwCl (kput w isC w1) H1 → va_D A0 (kput w isC w1) → va_S A0 H0 H1 locs1 → W p l e R s m args below meth c H1 locs1 (cells + mc) (slots + ms) Q (F0 m (pc + 3) ls (.long r :: rest))) : W p l e R s m args below meth c H locs cells slots Q (F0 m pc ls st0) := by
  have hF := va_free (wc := wc) hD hS hA isC hC
  refine va_calll hr hS (fun q _ h => hF q h) hF (fun x u t H1 locs1 ht hvm hx hB hz hk hS => ?_)
  subst hx
  rw [ht] at hB
  obtain ⟨g1, g2⟩ := kjoin hP hD isC hC hw hk hB
  exact kk H1 locs1 g1 g2 hS
variable {b L : Nat} {xs : Nat → Int32} {cI cJ cB : ClassId} {aK aV sa : Nat} {d0 : Drawn}
variable {y : MethodName} {bytes : ByteArray} {maxL n index : Nat} {ty : FieldType} {fr lo : Nat} {Cn : String} {ad : Addr} {As : List Value}
theorem lwI (C : LC p l s m c b L xs D cI cJ cB aK aV sa) {r : Int32} (hM : MI l y (kws y bytes maxL (some ty)) (kR fr lo) D (kT cI cJ cB) (.ref ad :: As) wc w1 r) (hG : GoodIn kW (wsV "DateSpansLaw" index Cn y (kws y bytes maxL (some ty)))) (hd : y.cls = Cn ∧ y.cls ≠ "java/lang/invoke/MethodHandle" ∧ y.cls ≠ "java/lang/invoke/VarHandle" ∧ (parseMethodDescriptor y.desc).map (fun d => d.parameters.length) = some n) (hR : fr + 1 ≤ 11 ∧ 8 + (maxL + 11) + lo ≤ 472)
    (hP : va_P D vwCl w H) (hD : va_D (lwA s) w) (hS : va_S (lwA s) s.heap H locs) (isC : List Nat) (hC : isC.map (fun i => w[i]?) = wc.map some) (hn : va_nd isC = true) (hw : w1.map Prod.fst = wc.map Prod.fst) {ci : Nat} {q : vw_C} {fs : List Value} (hc : vwCl[ci]? = some q) (hq : q.1 = Cn) (he : wc[0]? = some (ad, .inr (ci, fs)))
    (hna : As.length = n) (hsize : ls.size = 8) (hst : st0 = As.reverse ++ .ref ad :: rest) (hW : 2 * (F0 m pc ls st0).monitorRoom + (rest.map fun v => v.category).sum ≤ 8) (hcs : cells ≤ 1068) (hss : slots ≤ 9109) (hdg : decode cL_law pc = .ok (.invokevirtual index, 3))
    (kk : ∀ (H1 : Heap) (locs1 : List Loc), va_P D vwCl (kput w isC w1) H1 → va_D (lwA s) (kput w isC w1) → va_S (lwA s) s.heap H1 locs1 → W p l e room_1 (s.setDrawn d0) m #[.ref b] below meth c H1 locs1 cells slots Q (F0 m (pc + 3) ls (.int r :: rest))) : W p l e room_1 (s.setDrawn d0) m #[.ref b] below meth c H locs cells slots Q (F0 m pc ls st0) := by
  subst hq
  exact kjIg (mc := 0) (ms := 0) (va_runV (C := q.1) (own := "DateSpansLaw") (As := As) (rest := rest) (b := ad) (index := index) ⟨C.hx, C.hb, C.hml, C.hown, C.hts d0⟩ (hM H.size) (cwV n (C.hts d0) hG rfl rfl rfl hd hR) ⟨kPre_blind, va_recv (C.hK d0) (kP_sub hP isC hC) hc he, kpre (C.hN d0) (C.hK d0) hP hD isC hC hn⟩ rfl hna hsize hst hW hdg ⟨hcs, hss⟩) hP hD hS (fun _ h => h) isC hC hw kk
theorem lwL (C : LC p l s m c b L xs D cI cJ cB aK aV sa) {r : Int64} (hM : ML l y (kws y bytes maxL (some ty)) (kR fr lo) D (kT cI cJ cB) (.ref ad :: As) wc w1 r) (hG : GoodIn kW (wsV "DateSpansLaw" index Cn y (kws y bytes maxL (some ty)))) (hd : y.cls = Cn ∧ y.cls ≠ "java/lang/invoke/MethodHandle" ∧ y.cls ≠ "java/lang/invoke/VarHandle" ∧ (parseMethodDescriptor y.desc).map (fun d => d.parameters.length) = some n) (hR : fr + 1 ≤ 11 ∧ 8 + (maxL + 11) + lo ≤ 472)
    (hP : va_P D vwCl w H) (hD : va_D (lwA s) w) (hS : va_S (lwA s) s.heap H locs) (isC : List Nat) (hC : isC.map (fun i => w[i]?) = wc.map some) (hn : va_nd isC = true) (hw : w1.map Prod.fst = wc.map Prod.fst) {ci : Nat} {q : vw_C} {fs : List Value} (hc : vwCl[ci]? = some q) (hq : q.1 = Cn) (he : wc[0]? = some (ad, .inr (ci, fs)))
    (hna : As.length = n) (hsize : ls.size = 8) (hst : st0 = As.reverse ++ .ref ad :: rest) (hW : 2 * (F0 m pc ls st0).monitorRoom + (rest.map fun v => v.category).sum ≤ 8) (hcs : cells ≤ 1068) (hss : slots ≤ 9109) (hdg : decode cL_law pc = .ok (.invokevirtual index, 3))
    (kk : ∀ (H1 : Heap) (locs1 : List Loc), va_P D vwCl (kput w isC w1) H1 → va_D (lwA s) (kput w isC w1) → va_S (lwA s) s.heap H1 locs1 → W p l e room_1 (s.setDrawn d0) m #[.ref b] below meth c H1 locs1 cells slots Q (F0 m (pc + 3) ls (.long r :: rest))) : W p l e room_1 (s.setDrawn d0) m #[.ref b] below meth c H locs cells slots Q (F0 m pc ls st0) := by
  subst hq
  exact kjLg (mc := 0) (ms := 0) (va_runV (C := q.1) (own := "DateSpansLaw") (As := As) (rest := rest) (b := ad) (index := index) ⟨C.hx, C.hb, C.hml, C.hown, C.hts d0⟩ (hM H.size) (cwV n (C.hts d0) hG rfl rfl rfl hd hR) ⟨kPre_blind, va_recv (C.hK d0) (kP_sub hP isC hC) hc he, kpre (C.hN d0) (C.hK d0) hP hD isC hC hn⟩ rfl hna hsize hst hW hdg ⟨hcs, hss⟩) hP hD hS (fun _ h => h) isC hC hw kk
theorem lwIs (C : LC p l s m c b L xs D cI cJ cB aK aV sa) {r : Int32} (hM : MIs l y (kws y bytes maxL (some ty)) (kR fr lo) aK aV D (kT cI cJ cB) (.ref ad :: As) wc w1 r) (hG : GoodIn kW (wsV "DateSpansLaw" index Cn y (kws y bytes maxL (some ty)))) (hd : y.cls = Cn ∧ y.cls ≠ "java/lang/invoke/MethodHandle" ∧ y.cls ≠ "java/lang/invoke/VarHandle" ∧ (parseMethodDescriptor y.desc).map (fun d => d.parameters.length) = some n) (hR : fr + 1 ≤ 11 ∧ 8 + (maxL + 11) + lo ≤ 472)
    (hP : va_P D vwCl w H) (hD : va_D (lwA s) w) (hS : va_S (lwA s) s.heap H locs) (isC : List Nat) (hC : isC.map (fun i => w[i]?) = wc.map some) (hn : va_nd isC = true) (hw : w1.map Prod.fst = wc.map Prod.fst) {ci : Nat} {q : vw_C} {fs : List Value} (hc : vwCl[ci]? = some q) (hq : q.1 = Cn) (he : wc[0]? = some (ad, .inr (ci, fs)))
    (hna : As.length = n) (hsize : ls.size = 8) (hst : st0 = As.reverse ++ .ref ad :: rest) (hW : 2 * (F0 m pc ls st0).monitorRoom + (rest.map fun v => v.category).sum ≤ 8) (hcs : cells ≤ 1068) (hss : slots ≤ 9109) (hdg : decode cL_law pc = .ok (.invokevirtual index, 3))
    (kk : ∀ (H1 : Heap) (locs1 : List Loc), va_P D vwCl (kput w isC w1) H1 → va_D (lwA s) (kput w isC w1) → va_S (lwA s) s.heap H1 locs1 → W p l e room_1 (s.setDrawn d0) m #[.ref b] below meth c H1 locs1 cells slots Q (F0 m (pc + 3) ls (.int r :: rest))) : W p l e room_1 (s.setDrawn d0) m #[.ref b] below meth c H locs cells slots Q (F0 m pc ls st0) := by
  subst hq
  have hF := va_free (wc := wc) hD hS (fun _ h => h) isC hC
  exact kjIg (mc := 0) (ms := 0) (va_runV (C := q.1) (own := "DateSpansLaw") (As := As) (rest := rest) (b := ad) (index := index) ⟨C.hx, C.hb, C.hml, C.hown, C.hts d0⟩ (hM H.size) (cwV n (C.hts d0) hG rfl rfl rfl hd hR) ⟨kPreS_blind, va_recv (C.hK d0) (kP_sub hP isC hC) hc he, fun U hU hW => ⟨rfl, (kpre (C.hN d0) (C.hK d0) hP hD isC hC hn (av := .ref ad :: As) U hU hW).2, kG.pass (C.hG d0) hS hF hU hW⟩⟩ rfl hna hsize hst hW hdg ⟨hcs, hss⟩) hP hD hS (fun _ h => h) isC hC hw kk
theorem lwLd (C : LC p l s m c b L xs D cI cJ cB aK aV sa) (hd0 : s.drawn.sameBut d0 lw_cs) {r : Int64} (hM : MLd l y (kws y bytes maxL (some ty)) (kR fr lo) D (kT cI cJ cB) (.ref ad :: As) wc w1 r) (hG : GoodIn kW (wsV "DateSpansLaw" index Cn y (kws y bytes maxL (some ty)))) (hd : y.cls = Cn ∧ y.cls ≠ "java/lang/invoke/MethodHandle" ∧ y.cls ≠ "java/lang/invoke/VarHandle" ∧ (parseMethodDescriptor y.desc).map (fun d => d.parameters.length) = some n) (hR : fr + 1 ≤ 11 ∧ 8 + (maxL + 11) + lo ≤ 472)
    (hP : va_P D vwCl w H) (hD : va_D (lwA s) w) (hS : va_S (lwA s) s.heap H locs) (isC : List Nat) (hC : isC.map (fun i => w[i]?) = wc.map some) (hn : va_nd isC = true) (hw : w1.map Prod.fst = wc.map Prod.fst) {ci : Nat} {q : vw_C} {fs : List Value} (hc : vwCl[ci]? = some q) (hq : q.1 = Cn) (he : wc[0]? = some (ad, .inr (ci, fs)))
    (hna : As.length = n) (hsize : ls.size = 8) (hst : st0 = As.reverse ++ .ref ad :: rest) (hW : 2 * (F0 m pc ls st0).monitorRoom + (rest.map fun v => v.category).sum ≤ 8) (hcs : cells ≤ 1068) (hss : slots ≤ 9109) (hdg : decode cL_law pc = .ok (.invokevirtual index, 3))
    (kk : ∀ (d1 : Drawn) (H1 : Heap) (locs1 : List Loc), s.drawn.sameBut d1 lw_cs → va_P D vwCl (kput w isC w1) H1 → va_D (lwA s) (kput w isC w1) → va_S (lwA s) s.heap H1 locs1 → W p l e room_1 (s.setDrawn d1) m #[.ref b] below meth c H1 locs1 cells slots Q (F0 m (pc + 3) ls (.long r :: rest))) : W p l e room_1 (s.setDrawn d0) m #[.ref b] below meth c H locs cells slots Q (F0 m pc ls st0) := by
  subst hq
  have hF := va_free (wc := wc) hD hS (fun _ h => h) isC hC
  refine va_calllD hd0 (mc := 0) (ms := 0) (va_runV_D (C := q.1) (own := "DateSpansLaw") (As := As) (rest := rest) (b := ad) (index := index) ⟨C.hx, C.hb, C.hml, C.hown, C.hts d0⟩ (hM H.size) (cwV n (C.hts d0) hG rfl rfl rfl hd hR) ⟨kPre_blind, va_recv (C.hK d0) (kP_sub hP isC hC) hc he, kpre (C.hN d0) (C.hK d0) hP hD isC hC hn⟩ rfl hna hsize hst hW hdg ⟨hcs, hss⟩) hS (fun q _ h => hF q h) hF (fun x u t H1 locs1 ht hvm hx hB hz hk hS d1 hd1 => ?_)
  subst hx
  rw [ht] at hB
  obtain ⟨g1, g2⟩ := kjoin hP hD isC hC hw hk hB
  exact kk d1 H1 locs1 hd1 g1 g2 hS
/-- an argument: script[i + j] -/
theorem lwArg (C : LC p l s m c b L xs D cI cJ cB aK aV sa) {t j : Nat} {lv : List (Nat × Value)} (hl : lv_has ls 8 lv) (k0 k4 : Nat) (h0 : lv[k0]? = some (0, .ref b)) (h4 : lv[k4]? = some (4, .int (zI t))) (hS : va_S (lwA s) s.heap H locs) (ht : t + j < L)
    (e0 : decode cL_law pc = .ok (.aload_n 0, 1)) (e1 : decode cL_law (pc + 1) = .ok (.iload 4, 2)) (e3 : decode cL_law (pc + 3) = .ok (.iconst j, 1)) (e4 : decode cL_law (pc + 4) = .ok (.iadd, 1)) (e5 : decode cL_law (pc + 5) = .ok (.iaload, 1))
    (kk : W p l e room_1 (s.setDrawn d0) m #[.ref b] below meth c H locs cells slots Q (F0 m (pc + 6) ls (.int (xs (t + j)) :: rest))) : W p l e room_1 (s.setDrawn d0) m #[.ref b] below meth c H locs cells slots Q (F0 m pc ls rest) := by
  have h9 := C.hL
  refine lv_aload_n C.hx C.hb e0 rfl (lv_at hl k0 h0) ?_
  refine lv_iload C.hx C.hb e1 (lv_at hl k4 h4) ?_
  refine lv_iconst (v := zI j) C.hx C.hb e3 rfl ?_
  refine lv_iadd C.hx C.hb e4 ?_
  rw [zI_add]
  have e9 : (zI ((t : Int) + (j : Int))).toNatClampNeg = t + j := by rw [zI_cl (by omega) (by omega)]; omega
  refine va_sld (s := s.setDrawn d0) C.hx C.hb C.hX C.hbl (Nat.not_le.mpr C.hbl) hS ?_ e5 ?_
  · unfold vp_in
    rw [e9, zl_0, zI_lt (by omega) (by omega) (by omega) (by omega)]
    omega
  · rw [e9]
    exact kk
theorem lwArg6 (C : LC p l s m c b L xs D cI cJ cB aK aV sa) {t : Nat} {lv : List (Nat × Value)} (hl : lv_has ls 8 lv) (k0 k4 : Nat) (h0 : lv[k0]? = some (0, .ref b)) (h4 : lv[k4]? = some (4, .int (zI t))) (hS : va_S (lwA s) s.heap H locs) (ht : t + 6 < L)
    (e0 : decode cL_law pc = .ok (.aload_n 0, 1)) (e1 : decode cL_law (pc + 1) = .ok (.iload 4, 2)) (e3 : decode cL_law (pc + 3) = .ok (.bipush 6, 2)) (e4 : decode cL_law (pc + 5) = .ok (.iadd, 1)) (e5 : decode cL_law (pc + 6) = .ok (.iaload, 1))
    (kk : W p l e room_1 (s.setDrawn d0) m #[.ref b] below meth c H locs cells slots Q (F0 m (pc + 7) ls (.int (xs (t + 6)) :: rest))) : W p l e room_1 (s.setDrawn d0) m #[.ref b] below meth c H locs cells slots Q (F0 m pc ls rest) := by
  have h9 := C.hL
  refine lv_aload_n C.hx C.hb e0 rfl (lv_at hl k0 h0) ?_
  refine lv_iload C.hx C.hb e1 (lv_at hl k4 h4) ?_
  refine lv_bipush (v := zI 6) C.hx C.hb e3 (by decide) ?_
  refine lv_iadd C.hx C.hb e4 ?_
  rw [zI_add]
  have e9 : (zI ((t : Int) + 6)).toNatClampNeg = t + 6 := by rw [zI_cl (by omega) (by omega)]; omega
  refine va_sld (s := s.setDrawn d0) C.hx C.hb C.hX C.hbl (Nat.not_le.mpr C.hbl) hS ?_ e5 ?_
  · unfold vp_in
    rw [e9, zl_0, zI_lt (by omega) (by omega) (by omega) (by omega)]
    omega
  · rw [e9]
    exact kk
end LW
