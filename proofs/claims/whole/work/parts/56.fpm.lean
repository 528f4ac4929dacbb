/-! the bits of doubles and floats, as the library tells them; methods that may draw -/
theorem yd_Jxe99ae_isNaN_b9ae7 : yJxe99ae_isNaN_b9ae7.cls ≠ "java/lang/invoke/MethodHandle" ∧ yJxe99ae_isNaN_b9ae7.cls ≠ "java/lang/invoke/VarHandle" ∧ (parseMethodDescriptor yJxe99ae_isNaN_b9ae7.desc).map (fun d => d.parameters.length) = some 1 := by decide +kernel
theorem yd_Jxe99ae_doubleToLongBits_ccdee : yJxe99ae_doubleToLongBits_ccdee.cls ≠ "java/lang/invoke/MethodHandle" ∧ yJxe99ae_doubleToLongBits_ccdee.cls ≠ "java/lang/invoke/VarHandle" ∧ (parseMethodDescriptor yJxe99ae_doubleToLongBits_ccdee.desc).map (fun d => d.parameters.length) = some 1 := by decide +kernel
theorem yd_Jxf58ca_isNaN_12338 : yJxf58ca_isNaN_12338.cls ≠ "java/lang/invoke/MethodHandle" ∧ yJxf58ca_isNaN_12338.cls ≠ "java/lang/invoke/VarHandle" ∧ (parseMethodDescriptor yJxf58ca_isNaN_12338.desc).map (fun d => d.parameters.length) = some 1 := by decide +kernel
theorem yd_Jxf58ca_floatToIntBits_5c35a : yJxf58ca_floatToIntBits_5c35a.cls ≠ "java/lang/invoke/MethodHandle" ∧ yJxf58ca_floatToIntBits_5c35a.cls ≠ "java/lang/invoke/VarHandle" ∧ (parseMethodDescriptor yJxf58ca_floatToIntBits_5c35a.desc).map (fun d => d.parameters.length) = some 1 := by decide +kernel
noncomputable def fD_nan (x : UInt64) : Int32 := if Op.cmpValue (FP.dcmp x x) .l = (0 : Int32) then (0 : Int32) else (1 : Int32)
noncomputable def fF_nan (x : UInt32) : Int32 := if Op.cmpValue (FP.fcmp x x) .l = (0 : Int32) then (0 : Int32) else (1 : Int32)
theorem k_dnan (l : Launch) (x : UInt64) : SI l yJxe99ae_isNaN_b9ae7 (kws yJxe99ae_isNaN_b9ae7 cJxe99ae_isNaN_b9ae7 2 (some .boolean)) (kR 0 0) [.double x] (fD_nan x) := by
  refine SI.of (cc := cJxe99ae_isNaN_b9ae7) (maxL := 2) (by decide) (Nat.le_of_ble_eq_true rfl) (fun p e s m args below meth c Q ls KC hl hEnd => ?_)
  obtain ⟨hx, hb, hml, hown, hts⟩ := KC
  have hl : lv_has ls 2 [(0, .double x)] := hl
  refine lv_dload_n hx hb dJxe99ae_isNaN_b9ae7_0 rfl (lv_at hl 0 rfl) ?_
  refine lv_dload_n hx hb dJxe99ae_isNaN_b9ae7_1 rfl (lv_at hl 0 rfl) ?_
  refine lv_dcmp hx hb dJxe99ae_isNaN_b9ae7_2 ?_
  unfold fD_nan at hEnd
  refine lv_if_eq (tgt := 10) hx hb dJxe99ae_isNaN_b9ae7_3 (by decide) (fun c1 => ?_) (fun c1 => ?_)
  · refine lv_iconst (v := (0 : Int32)) hx hb dJxe99ae_isNaN_b9ae7_10 (by decide) ?_
    rw [if_pos c1] at hEnd
    exact hEnd _ _ dJxe99ae_isNaN_b9ae7_11 rfl
  · refine lv_iconst (v := (1 : Int32)) hx hb dJxe99ae_isNaN_b9ae7_6 (by decide) ?_
    refine lv_goto (tgt := 11) hx hb dJxe99ae_isNaN_b9ae7_7 (by decide) ?_
    rw [if_neg c1] at hEnd
    exact hEnd _ _ dJxe99ae_isNaN_b9ae7_11 rfl
section KOf
variable {l : Launch} {y : MethodName} {fr lo : Nat} {av : List Value} {cc : ByteArray} {maxL : Nat}
/-- the way in for a method of a class some of whose methods are run otherwise: no native row stands for this one -/
theorem SI.ofF {ty : FieldType} {r : Int32} (hy : plainFor y = true) (hn : (lg_sl av).length ≤ maxL)
    (body : ∀ (p : Program) (e : Env) (s : State) (m : MethodId) (args : Array Value) (below : List Frame) (meth : Method) (c : Code) (Q : State → Prop) (ls : Array Slot), KC p s m args meth c cc maxL y.cls → lv_has ls maxL (lv_args 0 av) →
      (∀ (ls : Array Slot) (pc : Nat), decode cc pc = .ok (.ireturn, 1) → narrow ty (.int r) = .int r → W p l e (kR fr lo) s m args below meth c s.heap [] 0 0 Q (F0 m pc ls [.int r])) →
      W p l e (kR fr lo) s m args below meth c s.heap [] 0 0 Q (F0 m 0 ls [])) : SI l y (kws y cc maxL (some ty)) (kR fr lo) av r := by
  unfold SI Met
  refine MetFree.of_bodySF (code := cc) (maxLocals := maxL) (ret := some ty) hy ?_ ?_
  · intro args s m h hnm
    obtain ⟨meth, c, h1, h2, h3, h4, h5, h6, -, -⟩ := Cond.code_spec hnm (atoms_spec (ws := kws y cc maxL (some ty)) h _ List.mem_cons_self)
    exact ⟨meth, c, h1, h2, h3, h4, h5, h6⟩
  · intro p e s m args below meth c s₁ B hml hv _
    have hh0 : s₁.heap = s.heap := by rw [B.state]; rfl
    obtain ⟨rfl, -⟩ := hv
    have hx := B.exec
    have hb := B.bytes
    have hr := B.returns
    have hts := atoms_spec (ws := kws y cc maxL (some ty)) B.pre
    have hown : s.vm.findClass y.cls = some m.cls := findClass_of_methodNamed B.named
    have hlocks := B.notSynchronized
    have hl := lv_entry av (n := maxL) hn
    have main : W p l e (kR fr lo) s m av.toArray below meth c s.heap [] 0 0 (MQ below (vp_Si (fun x => r = x)) av.toArray s 0 0 (fun _ => False)) (entryFrame m av.toArray maxL) := by
      rw [lg_entry_eq]
      generalize (lg_sl av ++ List.replicate (maxL - (lg_sl av).length) Slot.unset).toArray = ls at hl ⊢
      exact body p e s m _ below meth c _ ls ⟨hx, hb, hml, hown, fun w h => hts w (List.mem_cons_of_mem _ h)⟩ hl
        (fun ls pc hdg hnr => W.zret hx hb hr hnr (fun t ht hW => ⟨r, rfl, rfl, ht⟩) (fun _ h => absurd h List.not_mem_nil) hdg)
    obtain ⟨t, a1, o, b1, b2, b3⟩ := main s₁ hh0 (Stand.of_body B)
    exact ⟨t, o, a1, b1, b2, ⟨b3.1, b3.2⟩⟩
end KOf
theorem k_fnan (l : Launch) (x : UInt32) : SI l yJxf58ca_isNaN_12338 (kws yJxf58ca_isNaN_12338 cJxf58ca_isNaN_12338 1 (some .boolean)) (kR 0 0) [.float x] (fF_nan x) := by
  refine SI.ofF (cc := cJxf58ca_isNaN_12338) (maxL := 1) (by decide +kernel) (Nat.le_of_ble_eq_true rfl) (fun p e s m args below meth c Q ls KC hl hEnd => ?_)
  obtain ⟨hx, hb, hml, hown, hts⟩ := KC
  have hl : lv_has ls 1 [(0, .float x)] := hl
  refine lv_fload_n hx hb dJxf58ca_isNaN_12338_0 rfl (lv_at hl 0 rfl) ?_
  refine lv_fload_n hx hb dJxf58ca_isNaN_12338_1 rfl (lv_at hl 0 rfl) ?_
  refine lv_fcmp hx hb dJxf58ca_isNaN_12338_2 ?_
  unfold fF_nan at hEnd
  refine lv_if_eq (tgt := 10) hx hb dJxf58ca_isNaN_12338_3 (by decide) (fun c1 => ?_) (fun c1 => ?_)
  · refine lv_iconst (v := (0 : Int32)) hx hb dJxf58ca_isNaN_12338_10 (by decide) ?_
    rw [if_pos c1] at hEnd
    exact hEnd _ _ dJxf58ca_isNaN_12338_11 rfl
  · refine lv_iconst (v := (1 : Int32)) hx hb dJxf58ca_isNaN_12338_6 (by decide) ?_
    refine lv_goto (tgt := 11) hx hb dJxf58ca_isNaN_12338_7 (by decide) ?_
    rw [if_neg c1] at hEnd
    exact hEnd _ _ dJxf58ca_isNaN_12338_11 rfl
noncomputable def fJxe99ae_doubleToLongBits_ccdee (N : Nat) (p1 : UInt64) : Option Int64 := some (if fD_nan p1 = (0 : Int32) then p1.toInt64 else (9221120237041090560 : Int64))
noncomputable def fJxf58ca_floatToIntBits_5c35a (N : Nat) (p1 : UInt32) : Option Int32 := some (if fF_nan p1 = (0 : Int32) then p1.toInt32 else (2143289344 : Int32))
theorem kJxe99ae_doubleToLongBits_ccdee (l : Launch) (N : Nat) (x : UInt64) (r : Int64) (hf : fJxe99ae_doubleToLongBits_ccdee N x = some r) : SL l yJxe99ae_doubleToLongBits_ccdee (kws yJxe99ae_doubleToLongBits_ccdee cJxe99ae_doubleToLongBits_ccdee 2 (some .long)) (kR 1 21) [.double x] r := by
  refine SL.of (cc := cJxe99ae_doubleToLongBits_ccdee) (maxL := 2) (by decide) (Nat.le_of_ble_eq_true rfl) (fun p e s m args below meth c Q ls KC hl hEnd => ?_)
  obtain ⟨hx, hb, hml, hown, hts⟩ := KC
  have hown : s.vm.findClass "java/lang/Double" = some m.cls := hown
  have hl : lv_has ls 2 [(0, .double x)] := hl
  have h := Option.some.inj hf
  refine lv_dload_n hx hb dJxe99ae_doubleToLongBits_ccdee_0 rfl (lv_at hl 0 rfl) ?_
  refine kjSI (kS0 (own := "java/lang/Double") (As := [.double x]) (rest := []) ⟨hx, hb, hml, hown, hts⟩ (k_dnan l x) (kgS (kq q_1500 rfl) (kq q_1501 rfl) (kq q_75 rfl) (kq q_1502 rfl)) yd_Jxe99ae_isNaN_b9ae7 ⟨Nat.le_of_ble_eq_true rfl, Nat.le_of_ble_eq_true rfl⟩ rfl rfl hl.1 rfl (lv_room (Nat.le_of_ble_eq_true rfl)) dJxe99ae_doubleToLongBits_ccdee_1) ?_
  refine lv_if_ne (tgt := 12) hx hb dJxe99ae_doubleToLongBits_ccdee_4 (by decide) (fun c1 => ?_) (fun c1 => ?_)
  · rw [if_neg c1] at h
    subst h
    refine lv_ldc2 (v := (9221120237041090560 : Int64)) hx hb hown (hts _ (kq q_1506 rfl)) dJxe99ae_doubleToLongBits_ccdee_12 ?_
    exact hEnd _ _ dJxe99ae_doubleToLongBits_ccdee_15
  · rw [if_pos c1] at h
    subst h
    refine lv_dload_n hx hb dJxe99ae_doubleToLongBits_ccdee_7 rfl (lv_at hl 0 rfl) ?_
    refine vn_d2l hx hb (hml.trans hl.1.symm) hown (hts _ (kq q_1503 rfl)) (hts _ (kq q_1505 rfl)) (hts _ (kq q_1504 rfl)) (hts _ (kq q_75 rfl)) (Nat.le_of_ble_eq_true rfl) (Nat.le_of_ble_eq_true rfl) dJxe99ae_doubleToLongBits_ccdee_8 ?_
    exact hEnd _ _ dJxe99ae_doubleToLongBits_ccdee_11
theorem kJxf58ca_floatToIntBits_5c35a (l : Launch) (N : Nat) (x : UInt32) (r : Int32) (hf : fJxf58ca_floatToIntBits_5c35a N x = some r) : SI l yJxf58ca_floatToIntBits_5c35a (kws yJxf58ca_floatToIntBits_5c35a cJxf58ca_floatToIntBits_5c35a 1 (some .int)) (kR 1 21) [.float x] r := by
  refine SI.ofF (cc := cJxf58ca_floatToIntBits_5c35a) (maxL := 1) (by decide +kernel) (Nat.le_of_ble_eq_true rfl) (fun p e s m args below meth c Q ls KC hl hEnd => ?_)
  obtain ⟨hx, hb, hml, hown, hts⟩ := KC
  have hown : s.vm.findClass "java/lang/Float" = some m.cls := hown
  have hl : lv_has ls 1 [(0, .float x)] := hl
  have h := Option.some.inj hf
  refine lv_fload_n hx hb dJxf58ca_floatToIntBits_5c35a_0 rfl (lv_at hl 0 rfl) ?_
  refine kjSI (kS0 (own := "java/lang/Float") (As := [.float x]) (rest := []) ⟨hx, hb, hml, hown, hts⟩ (k_fnan l x) (kgS (kq q_1519 rfl) (kq q_1520 rfl) (kq q_76 rfl) (kq q_1521 rfl)) yd_Jxf58ca_isNaN_12338 ⟨Nat.le_of_ble_eq_true rfl, Nat.le_of_ble_eq_true rfl⟩ rfl rfl hl.1 rfl (lv_room (Nat.le_of_ble_eq_true rfl)) dJxf58ca_floatToIntBits_5c35a_1) ?_
  refine lv_if_ne (tgt := 12) hx hb dJxf58ca_floatToIntBits_5c35a_4 (by decide) (fun c1 => ?_) (fun c1 => ?_)
  · rw [if_neg c1] at h
    subst h
    refine lv_ldc (v := (2143289344 : Int32)) hx hb hown (hts _ (kq q_1525 rfl)) dJxf58ca_floatToIntBits_5c35a_12 ?_
    exact hEnd _ _ dJxf58ca_floatToIntBits_5c35a_14 rfl
  · rw [if_pos c1] at h
    subst h
    refine lv_fload_n hx hb dJxf58ca_floatToIntBits_5c35a_7 rfl (lv_at hl 0 rfl) ?_
    refine vn_f2i hx hb (hml.trans hl.1.symm) hown (hts _ (kq q_1522 rfl)) (hts _ (kq q_1524 rfl)) (hts _ (kq q_1523 rfl)) (hts _ (kq q_76 rfl)) (Nat.le_of_ble_eq_true rfl) (Nat.le_of_ble_eq_true rfl) dJxf58ca_floatToIntBits_5c35a_8 ?_
    exact hEnd _ _ dJxf58ca_floatToIntBits_5c35a_11 rfl
theorem nan_cmp {x : UInt64} (h : isNaN64 x = true) : FP.dcmp x x = none := by
  have h1 : 9218868437227405312 < x.toNat % 2 ^ 63 := by
    unfold isNaN64 at h
    have h2 := of_decide_eq_true h
    have h3 : (0x7ff0000000000000 : UInt64).toNat < (x &&& 0x7fffffffffffffff).toNat := UInt64.lt_iff_toNat_lt.mp h2
    rw [UInt64.toNat_and] at h3
    have e : (0x7fffffffffffffff : UInt64).toNat = 2 ^ 63 - 1 := by decide +kernel
    rw [e, Nat.and_two_pow_sub_one_eq_mod] at h3
    exact h3
  have h4 := (FP.Core.isNaN_bits x).mpr h1
  have h5 : FP.Core.decode FP.Core.b64 x.toNat = .nan := of_decide_eq_true h4
  show FP.Core.order (FP.Core.decode FP.Core.b64 x.toNat) (FP.Core.decode FP.Core.b64 x.toNat) = none
  rw [h5]; rfl
theorem nan_bits {x : UInt64} (h : isNaN64 x = true) (N : Nat) : fJxe99ae_doubleToLongBits_ccdee N x = some (9221120237041090560 : Int64) := by
  unfold fJxe99ae_doubleToLongBits_ccdee fD_nan
  rw [nan_cmp h]
  exact congrArg some ((if_neg (by decide)).trans rfl)
theorem dbits_alike {x y : UInt64} (N : Nat) (h : alike64 x y = true) : fJxe99ae_doubleToLongBits_ccdee N x = fJxe99ae_doubleToLongBits_ccdee N y := by
  unfold alike64 at h
  rw [Bool.or_eq_true, Bool.and_eq_true] at h
  rcases h with h | ⟨h1, h2⟩
  · rw [of_decide_eq_true h]
  · rw [nan_bits h1, nan_bits h2]
def MLd (l : Launch) (y : MethodName) (ws : List Cond) (rm : Room) (D : va_G) (T : List (ClassId × FieldType)) (av : List Value) (w w' : va_W) (r : Int64) : Prop :=
  ∀ sz : Nat, MetD lw_cs l y ws rm (va_Pc av (kPre D T w sz)) (va_Ql (fun (x : Int64) (_ : Unit) => r = x) (fun _ t => va_P D vwCl w' t.heap) (va_A w sz)) 0 0 (va_A w sz)
section KOd
variable {l : Launch} {y : MethodName} {fr lo : Nat} {D : va_G} {T : List (ClassId × FieldType)} {av : List Value} {w w' : va_W} {cc : ByteArray} {maxL : Nat}
theorem MLd.of {r : Int64} (hy : plainName y.cls = true) (hn : (lg_sl av).length ≤ maxL)
    (body : ∀ (p : Program) (e : Env) (s : State) (m : MethodId) (args : Array Value) (below : List Frame) (meth : Method) (c : Code) (A : Nat → Prop) (Q : State → Prop) (ls : Array Slot), (∀ d : Drawn, KC p (s.setDrawn d) m args meth c cc maxL y.cls ∧ kN (s.setDrawn d) ∧ va_K D vwCl T (s.setDrawn d)) → s.drawn.sameBut s.drawn lw_cs → va_P D vwCl w s.heap → va_D A w → (∀ q, s.heap.size ≤ q → A q) → lv_has ls maxL (lv_args 0 av) →
      (∀ (d : Drawn) (H : Heap) (locs : List Loc) (ls : Array Slot) (pc : Nat), s.drawn.sameBut d lw_cs → va_P D vwCl w' H → va_S A s.heap H locs → decode cc pc = .ok (.lreturn, 1) → W p l e (kR fr lo) (s.setDrawn d) m args below meth c H locs 0 0 Q (F0 m pc ls [.long r])) →
      W p l e (kR fr lo) (s.setDrawn s.drawn) m args below meth c s.heap [] 0 0 Q (F0 m 0 ls [])) : MLd l y (kws y cc maxL (some .long)) (kR fr lo) D T av w w' r := by
  intro sz
  refine MetD.ofW (cc := cc) (maxL := maxL) (ret := some .long) hy rfl ?_
  intro p e s m args below meth c s₁ B hml hv hd0
  obtain ⟨rfl, hsz, hP, hK, hD0, hN⟩ := hv
  have hx := B.exec
  have hb := B.bytes
  have hr := B.returns
  have hts := atoms_spec (ws := kws y cc maxL (some .long)) B.pre
  have hown : s.vm.findClass y.cls = some m.cls := findClass_of_methodNamed B.named
  have hlocks := B.notSynchronized
  subst hsz
  have hD := hD0.self (sz := s.heap.size)
  have hl := lv_entry av (n := maxL) hn
  rw [lg_entry_eq]
  generalize (lg_sl av ++ List.replicate (maxL - (lg_sl av).length) Slot.unset).toArray = ls at hl ⊢
  exact body p e s m _ below meth c (va_A w s.heap.size) _ ls (fun d => ⟨⟨hx, hb, hml, hown, dr_words (fun w h => hts w (List.mem_cons_of_mem _ h)) d⟩, kN.same (u := s) (U := s.setDrawn d) rfl hN, va_K.moved (u := s) (U := s.setDrawn d) (Vm.Alike.refl s.vm) hK⟩) hd0 hP hD (fun q h => Or.inr h) hl
    (fun d H locs ls pc hd hP hS hdg => W.endD hd (W.lret hx hb hr (fun t ht hW => ⟨⟨r, (), rfl, rfl, by show va_P D vwCl w' t.heap; rw [ht]; exact hP⟩, hS.F ht⟩) hS.2.2 hdg))
end KOd
