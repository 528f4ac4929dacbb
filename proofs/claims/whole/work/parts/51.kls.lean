/-! methods that read the reference's string of letters: the world and the string together -/
def kPreS (aK aV : Nat) (D : va_G) (T : List (ClassId × FieldType)) (w : va_W) (sz : Nat) : State → Prop := fun U => kPre D T w sz U ∧ kG aK aV (va_A w sz) U U.heap
theorem kPreS_blind {aK aV : Nat} {D : va_G} {T : List (ClassId × FieldType)} {w : va_W} {sz : Nat} {av : List Value} : FrameBlind (va_Pc av (kPreS aK aV D T w sz)) :=
  fun a U g mk q => ⟨q.1, (kPre_blind (av := av) a U g mk ⟨q.1, q.2.1⟩).2, q.2.2.calling⟩
def MIs (l : Launch) (y : MethodName) (ws : List Cond) (rm : Room) (aK aV : Nat) (D : va_G) (T : List (ClassId × FieldType)) (av : List Value) (w w' : va_W) (r : Int32) : Prop :=
  ∀ sz : Nat, Met l y ws rm (va_Pc av (kPreS aK aV D T w sz)) (va_Qi (fun (x : Int32) (_ : Unit) => r = x) (fun _ t => va_P D vwCl w' t.heap) (va_A w sz)) 0 0 (va_A w sz)
def MVs (l : Launch) (y : MethodName) (ws : List Cond) (rm : Room) (aK aV : Nat) (D : va_G) (T : List (ClassId × FieldType)) (av : List Value) (w w' : va_W) : Prop :=
  ∀ sz : Nat, Met l y ws rm (va_Pc av (kPreS aK aV D T w sz)) (va_Qv (fun (_ : Unit) => True) (fun _ t => va_P D vwCl w' t.heap) (va_A w sz)) 0 0 (va_A w sz)
section KOs
variable {l : Launch} {y : MethodName} {fr lo aK aV : Nat} {D : va_G} {T : List (ClassId × FieldType)} {av : List Value} {w w' : va_W} {cc : ByteArray} {maxL : Nat}
theorem MIs.of {ty : FieldType} {r : Int32} (hy : plainName y.cls = true) (hn : (lg_sl av).length ≤ maxL)
    (body : ∀ (p : Program) (e : Env) (s : State) (m : MethodId) (args : Array Value) (below : List Frame) (meth : Method) (c : Code) (A : Nat → Prop) (Q : State → Prop) (ls : Array Slot), KC p s m args meth c cc maxL y.cls → kN s → va_K D vwCl T s → va_P D vwCl w s.heap → va_D A w → (∀ q, s.heap.size ≤ q → A q) → kG aK aV A s s.heap → lv_has ls maxL (lv_args 0 av) →
      (∀ (H : Heap) (locs : List Loc) (ls : Array Slot) (pc : Nat), va_P D vwCl w' H → va_S A s.heap H locs → decode cc pc = .ok (.ireturn, 1) → narrow ty (.int r) = .int r → W p l e (kR fr lo) s m args below meth c H locs 0 0 Q (F0 m pc ls [.int r])) →
      W p l e (kR fr lo) s m args below meth c s.heap [] 0 0 Q (F0 m 0 ls [])) : MIs l y (kws y cc maxL (some ty)) (kR fr lo) aK aV D T av w w' r := by
  intro sz
  refine Met.ofW (cc := cc) (maxL := maxL) (ret := some ty) hy rfl ?_
  intro p e s m args below meth c s₁ B hml hv
  obtain ⟨rfl, ⟨hsz, hP, hK, hD0, hN⟩, hG⟩ := hv
  have hx := B.exec
  have hb := B.bytes
  have hr := B.returns
  have hts := atoms_spec (ws := kws y cc maxL (some ty)) B.pre
  have hown : s.vm.findClass y.cls = some m.cls := findClass_of_methodNamed B.named
  have hlocks := B.notSynchronized
  subst hsz
  have hD := hD0.self (sz := s.heap.size)
  have hl := lv_entry av (n := maxL) hn
  rw [lg_entry_eq]
  generalize (lg_sl av ++ List.replicate (maxL - (lg_sl av).length) Slot.unset).toArray = ls at hl ⊢
  exact body p e s m _ below meth c (va_A w s.heap.size) _ ls ⟨hx, hb, hml, hown, fun w h => hts w (List.mem_cons_of_mem _ h)⟩ hN hK hP hD (fun q h => Or.inr h) hG hl
    (fun H locs ls pc hP hS hdg hnr => W.zret hx hb hr hnr (fun t ht hW => ⟨⟨r, (), rfl, rfl, by show va_P D vwCl w' t.heap; rw [ht]; exact hP⟩, hS.F ht⟩) hS.2.2 hdg)
theorem MVs.of (hy : plainName y.cls = true) (hn : (lg_sl av).length ≤ maxL)
    (body : ∀ (p : Program) (e : Env) (s : State) (m : MethodId) (args : Array Value) (below : List Frame) (meth : Method) (c : Code) (A : Nat → Prop) (Q : State → Prop) (ls : Array Slot), KC p s m args meth c cc maxL y.cls → kN s → va_K D vwCl T s → va_P D vwCl w s.heap → va_D A w → (∀ q, s.heap.size ≤ q → A q) → kG aK aV A s s.heap → lv_has ls maxL (lv_args 0 av) →
      (∀ (H : Heap) (locs : List Loc) (ls : Array Slot) (pc : Nat), va_P D vwCl w' H → va_S A s.heap H locs → decode cc pc = .ok (.return_, 1) → W p l e (kR fr lo) s m args below meth c H locs 0 0 Q (F0 m pc ls [])) →
      W p l e (kR fr lo) s m args below meth c s.heap [] 0 0 Q (F0 m 0 ls [])) : MVs l y (kws y cc maxL none) (kR fr lo) aK aV D T av w w' := by
  intro sz
  refine Met.ofW (cc := cc) (maxL := maxL) (ret := none) hy rfl ?_
  intro p e s m args below meth c s₁ B hml hv
  obtain ⟨rfl, ⟨hsz, hP, hK, hD0, hN⟩, hG⟩ := hv
  have hx := B.exec
  have hb := B.bytes
  have hr := B.returns
  have hts := atoms_spec (ws := kws y cc maxL none) B.pre
  have hown : s.vm.findClass y.cls = some m.cls := findClass_of_methodNamed B.named
  have hlocks := B.notSynchronized
  subst hsz
  have hD := hD0.self (sz := s.heap.size)
  have hl := lv_entry av (n := maxL) hn
  rw [lg_entry_eq]
  generalize (lg_sl av ++ List.replicate (maxL - (lg_sl av).length) Slot.unset).toArray = ls at hl ⊢
  exact body p e s m _ below meth c (va_A w s.heap.size) _ ls ⟨hx, hb, hml, hown, fun w h => hts w (List.mem_cons_of_mem _ h)⟩ hN hK hP hD (fun q h => Or.inr h) hG hl
    (fun H locs ls pc hP hS hdg => W.vret hx hb hr (fun t ht hW => ⟨⟨(), rfl, trivial, by show va_P D vwCl w' t.heap; rw [ht]; exact hP⟩, hS.F ht⟩) hS.2.2 hdg)
end KOs
section KCs
variable {p : Program} {l : Launch} {e : Env} {R : Room} {s : State} {m : MethodId} {args : Array Value} {below : List Frame} {meth : Method} {c : Code} {H : Heap} {locs : List Loc} {Q : State → Prop}
variable {pc : Nat} {ls : Array Slot} {rest st0 : List Value} {a : Array Value} {A0 : Nat → Prop} {free : Addr → Prop}
variable {D : va_G} {T : List (ClassId × FieldType)} {w wc w1 : va_W} {aK aV : Nat}
variable {y : MethodName} {bytes cc : ByteArray} {maxL nL n index : Nat} {ret : Option FieldType} {fr lo : Nat} {Qc : Array Value → State → Outcome → State → Prop} {own C host : String} {b : Addr} {As : List Value} {g : JFrame}
theorem kVs (hGs : kG aK aV A0 s s.heap) (hS : va_S A0 s.heap H locs) (hA : ∀ q, s.heap.size ≤ q → A0 q) (S : CallFix p m c cc nL s args kW own) (hM : Met l y (kws y bytes maxL ret) (kR fr lo) (va_Pc (.ref b :: As) (kPreS aK aV D T wc H.size)) Qc 0 0 free) (hG : GoodIn kW (wsV own index C y (kws y bytes maxL ret))) (hd : y.cls = C ∧ y.cls ≠ "java/lang/invoke/MethodHandle" ∧ y.cls ≠ "java/lang/invoke/VarHandle" ∧ (parseMethodDescriptor y.desc).map (fun d => d.parameters.length) = some n) (hR : fr + 1 ≤ R.frames ∧ 8 + (maxL + 11) + lo ≤ R.locals)
    (hN : kN s) (hK : va_K D vwCl T s) (hP : va_P D vwCl w H) (hD : va_D A0 w) (isC : List Nat) (hC : isC.map (fun i => w[i]?) = wc.map some) (hn : va_nd isC = true) {ci : Nat} {q : vw_C} {fs : List Value} (hc : vwCl[ci]? = some q) (hq : q.1 = C) (he : wc[0]? = some (b, .inr (ci, fs)))
    (hg : g.method = m) (hna : As.length = n) (hsize : g.locals.size = nL) (hstack : g.stack = As.reverse ++ .ref b :: rest) (hW : 2 * g.monitorRoom + (rest.map fun v => v.category).sum ≤ 8) (hdg : decode cc g.pc = .ok (.invokevirtual index, 3)) :
    va_Run p l e R s m args below meth c H locs 0 0 0 0 g rest (Qc (Value.ref b :: As).toArray) free := by
  subst hq
  have hF := va_free (wc := wc) hD hS hA isC hC
  exact va_runV S hM (cwV n S.2.2.2.2 hG rfl rfl rfl hd hR) ⟨kPreS_blind, va_recv hK (kP_sub hP isC hC) hc he, fun U hU hW => ⟨rfl, (kpre hN hK hP hD isC hC hn (av := .ref b :: As) U hU hW).2, hGs.pass hS hF hU hW⟩⟩ hg hna hsize hstack hW hdg ⟨Nat.zero_le _, Nat.zero_le _⟩
end KCs
noncomputable def fX10_letter (N : Nat) (p1 : Int32) : Option Int32 := if 0 ≤ p1 ∧ p1 < 7 then some (tx p1.toNatClampNeg) else none
theorem kX10_letter (l : Launch) (aK aV : Nat) (N : Nat) (p1 : Int32) (r : Int32) (hf : fX10_letter N p1 = some r) : SP l yX10_letter (kws yX10_letter cX10_letter 1 (some .char)) (kR 4 85) (kF aK aV) [.int p1] r := by
  obtain ⟨z, l1, v1, rfl⟩ := zI_of p1
  unfold fX10_letter at hf
  by_cases h : 0 ≤ zI z ∧ zI z < 7
  · rw [if_pos h] at hf
    have h0 : 0 ≤ z := by
      by_cases q : 0 ≤ z
      · exact q
      · exact absurd h.1 (i_nge' (b := 0) (by decide) (by omega))
    have h7 : z < 7 := by
      by_cases q : z < 7
      · exact q
      · exact absurd h.2 (i_nlt (b := 7) (by decide) (by omega))
    obtain ⟨k, rfl⟩ : ∃ k : Nat, z = (k : Int) := ⟨z.toNat, by omega⟩
    rw [zI_cl (by omega) (by omega), tn1] at hf
    have e : tx k = r := Option.some.inj hf
    rw [← e]
    exact k_letter l aK aV (by omega)
  · rw [if_neg h] at hf; exact nomatch hf
