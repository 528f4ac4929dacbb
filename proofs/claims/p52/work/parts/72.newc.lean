/-! calls of constructors -/
section KI
variable {p : Program} {l : Launch} {e : Env} {R : Room} {s : State} {m : MethodId} {args : Array Value} {below : List Frame} {meth : Method} {c : Code} {H : Heap} {locs : List Loc} {Q : State → Prop} {cells slots mc ms : Nat}
variable {pc : Nat} {ls : Array Slot} {rest st0 : List Value} {a : Array Value} {A0 : Nat → Prop} {H0 : Heap} {free : Addr → Prop}
variable {D : va_G} {T : List (ClassId × FieldType)} {w wc wr : va_W} {w' : List Nat → va_W}
theorem kjC (hr : va_Run p l e R s m args below meth c H locs cells slots mc ms (F0 m pc ls st0) rest (va_Qv (fun (_ : List Nat) => True) (fun u t => va_P D vwCl (w' u) t.heap ∧ va_D (va_A wc H.size) (w' u)) (va_A wc H.size) a) (va_A wc H.size)) (hP : va_P D vwCl w H) (hD : va_D A0 w) (hS : va_S A0 H0 H locs) (hA : ∀ q, H0.size ≤ q → A0 q) (isC isR : List Nat) (hC : isC.map (fun i => w[i]?) = wc.map some) (hR : isR.map (fun i => w[i]?) = wr.map some) (hn : va_nd isR = true) (hdis : ∀ i ∈ isR, i ∉ isC)
    (kk : ∀ (u : List Nat) (H1 : Heap) (locs1 : List Loc), va_P D vwCl (wr ++ w' u) H1 → va_D A0 (wr ++ w' u) → va_S A0 H0 H1 locs1 → W p l e R s m args below meth c H1 locs1 (cells + mc) (slots + ms) Q (F0 m (pc + 3) ls rest)) : W p l e R s m args below meth c H locs cells slots Q (F0 m pc ls st0) := by
  have hF := va_free (wc := wc) hD hS hA isC hC
  refine va_callv hr hS (fun q _ h => hF q h) hF (fun u t H1 locs1 ht hvm hx hB hz hk hS => ?_)
  rw [ht] at hB
  obtain ⟨g1, g2⟩ := va_join hP hD isC isR hC hR hn hdis hk hF hB.1 hB.2
  exact kk u H1 locs1 g1 g2 hS
variable {y : MethodName} {bytes cc : ByteArray} {maxL nL n index : Nat} {fr lo : Nat} {Qc : Array Value → State → Outcome → State → Prop} {own host : String} {b : Addr} {As : List Value} {g : JFrame}
theorem kIN (S : CallFix p m c cc nL s args kW own) (hM : Met l y (kws y bytes maxL none) (kRc fr mc ms lo) (va_Pc (.ref b :: As) (kPre D T wc H.size)) Qc mc ms free) (hG : GoodIn kW (kws y bytes maxL none)) (h1 : va_Nw (.methodLinkNest own index y host) s) (h2 : Cond.instanceMethod y ∈ kW) (h4 : Cond.initialized y.cls ∈ kW) (hyn : y.name = "<init>") (hd : y.cls ≠ "java/lang/invoke/MethodHandle" ∧ y.cls ≠ "java/lang/invoke/VarHandle" ∧ (parseMethodDescriptor y.desc).map (fun d => d.parameters.length) = some n) (hR : fr + 1 ≤ R.frames ∧ 8 + (maxL + 11) + lo ≤ R.locals) (hf : cells + mc ≤ R.cells ∧ slots + ms ≤ R.slots)
    (hN : kN s) (hK : va_K D vwCl T s) (hP : va_P D vwCl w H) (hD : va_D A0 w) (isC : List Nat) (hC : isC.map (fun i => w[i]?) = wc.map some) (hn : va_nd isC = true)
    (hg : g.method = m) (hna : As.length = n) (hsize : g.locals.size = nL) (hstack : g.stack = As.reverse ++ .ref b :: rest) (hW : 2 * g.monitorRoom + (rest.map fun v => v.category).sum ≤ 8) (hdg : decode cc g.pc = .ok (.invokespecial index, 3)) :
    va_Run p l e R s m args below meth c H locs cells slots mc ms g rest (Qc (Value.ref b :: As).toArray) free :=
  va_runIN S hM ⟨va_cnB n S.2.2.2.2 hG rfl rfl rfl h1 (S.2.2.2.2 _ h4) hd hR, hyn, S.2.2.2.2 _ h2⟩ ⟨kPre_blind, kpre hN hK hP hD isC hC hn⟩ hg hna hsize hstack hW hdg hf
end KI
