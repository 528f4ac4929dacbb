/-! the law from its entry -/
section KCI
variable {p : Program} {l : Launch} {e : Env} {R : Room} {s : State} {m : MethodId} {args : Array Value} {below : List Frame} {meth : Method} {c : Code} {H : Heap} {locs : List Loc} {cells slots mc ms : Nat}
variable {rest : List Value} {A0 : Nat → Prop} {free : Addr → Prop} {D : va_G} {T : List (ClassId × FieldType)} {w wc : va_W}
variable {y : MethodName} {bytes cc : ByteArray} {maxL nL n index : Nat} {fr lo : Nat} {Qc : Array Value → State → Outcome → State → Prop} {own : String} {b : Addr} {As : List Value} {g : JFrame}
theorem kIc (S : CallFix p m c cc nL s args kW own) (hM : Met l y (kws y bytes maxL none) (kRc fr mc ms lo) (va_Pc (.ref b :: As) (kPre D T wc H.size)) Qc mc ms free) (hG : GoodIn kW (kws y bytes maxL none)) (h1 : Cond.methodLink own index y ∈ kW) (h2 : Cond.instanceMethod y ∈ kW) (h4 : Cond.initialized y.cls ∈ kW) (hyn : y.name = "<init>") (hd : y.cls ≠ "java/lang/invoke/MethodHandle" ∧ y.cls ≠ "java/lang/invoke/VarHandle" ∧ (parseMethodDescriptor y.desc).map (fun d => d.parameters.length) = some n) (hR : fr + 1 ≤ R.frames ∧ 8 + (maxL + 11) + lo ≤ R.locals) (hf : cells + mc ≤ R.cells ∧ slots + ms ≤ R.slots)
    (hN : kN s) (hK : va_K D vwCl T s) (hP : va_P D vwCl w H) (hD : va_D A0 w) (isC : List Nat) (hC : isC.map (fun i => w[i]?) = wc.map some) (hn : va_nd isC = true)
    (hg : g.method = m) (hna : As.length = n) (hsize : g.locals.size = nL) (hstack : g.stack = As.reverse ++ .ref b :: rest) (hW : 2 * g.monitorRoom + (rest.map fun v => v.category).sum ≤ 8) (hdg : decode cc g.pc = .ok (.invokespecial index, 3)) :
    va_Run p l e R s m args below meth c H locs cells slots mc ms g rest (Qc (Value.ref b :: As).toArray) free :=
  va_runI S hM (cwI n S.2.2.2.2 hG rfl rfl rfl (S.2.2.2.2 _ h4) (S.2.2.2.2 _ h1) (S.2.2.2.2 _ h2) hyn hd hR) ⟨kPre_blind, kpre hN hK hP hD isC hC hn⟩ hg hna hsize hstack hW hdg hf
end KCI
theorem zLI : LI (fun _ => 0) (fun _ => 0) (fun _ => 0) (fun _ => 0) (fun _ => 0) 0 0 (fun _ => 0) (fun _ => 0) (fun _ => 0) (fun _ => 0) (fun _ => 0) (fun _ => 0) (fun _ => 0) := by
  have z1 : (0 : Int) ≤ 3652058 := by decide
  have z2 : (0 : Int) ≤ 86399 := by decide
  have a0 : AdW (fun _ => 0) := ⟨0, zl_0, by decide, by decide⟩
  refine ⟨fun k hk => ⟨zl_0, zl_0, ⟨Int.le_refl _, z1⟩, Int.le_refl _, z2⟩, fun k hk => ⟨zl_0, zl_0, zl_0, ?_⟩, rfl, ⟨0, by decide, zl_0⟩, a0, a0⟩
  show sp_b3 0 0 0; decide
set_option maxHeartbeats 4000000 in
set_option maxRecDepth 100000 in
theorem cl_known {s : State} {args : Array Value} (hts : ∀ w ∈ kW, w.before args s = true) : ∃ (dC : Nat → ClassId) (dI : Nat → Nat → Nat), ∀ (k : Nat) (q : vw_C), vwCl[k]? = some q → u_Kn s q.1 q.2.1 q.2.2 (dC k) (dI k) := by
  obtain ⟨c0, i0, k0⟩ := u_known (C := RX0) (T := TX0) (N := 11) (n := 11) hts inX0 (hts _ (kq q_135 rfl))
  obtain ⟨c1, i1, k1⟩ := u_known (C := RX2) (T := TX2) (N := 5) (n := 5) hts inX2 (hts _ (kq q_92 rfl))
  obtain ⟨c2, i2, k2⟩ := u_known (C := RX3) (T := TX3) (N := 2) (n := 2) hts inX3 (hts _ (kq q_65 rfl))
  obtain ⟨c3, i3, k3⟩ := u_known (C := RX4) (T := TX4) (N := 5) (n := 5) hts inX4 (hts _ (kq q_42 rfl))
  obtain ⟨c4, i4, k4⟩ := u_known (C := RX5) (T := TX5) (N := 3) (n := 3) hts inX5 (hts _ (kq q_116 rfl))
  obtain ⟨c5, i5, k5⟩ := u_known (C := RX6) (T := TX6) (N := 2) (n := 2) hts inX6 (hts _ (kq q_79 rfl))
  obtain ⟨c6, i6, k6⟩ := u_known (C := RX7) (T := TX7) (N := 7) (n := 7) hts inX7 (hts _ (kq q_178 rfl))
  obtain ⟨c7, i7, k7⟩ := u_known (C := RX8) (T := TX8) (N := 7) (n := 7) hts inX8 (hts _ (kq q_205 rfl))
  obtain ⟨c8, i8, k8⟩ := u_known (C := RX9) (T := TX9) (N := 12) (n := 12) hts inX9 (hts _ (kq q_34 rfl))
  refine ⟨fun k => [c0, c1, c2, c3, c4, c5, c6, c7, c8].getD k 0, fun k => [i0, i1, i2, i3, i4, i5, i6, i7, i8].getD k (fun _ => 0), ?_⟩
  intro k q hq
  match k, hq with
  | 0, hq => cases hq; exact k0
  | 1, hq => cases hq; exact k1
  | 2, hq => cases hq; exact k2
  | 3, hq => cases hq; exact k3
  | 4, hq => cases hq; exact k4
  | 5, hq => cases hq; exact k5
  | 6, hq => cases hq; exact k6
  | 7, hq => cases hq; exact k7
  | 8, hq => cases hq; exact k8
  | k + 9, hq => exact absurd hq (by simp [vwCl])
def W9z (cI cJ : ClassId) (q0 : Nat) (u : List Nat) : va_W := [(q0, .inr (8, [.ref (u.getD 0 0), .ref (u.getD 6 0), .int 0, .ref (u.getD 12 0), .ref (u.getD 14 0), .ref (u.getD 16 0), .ref (u.getD 18 0), .ref (u.getD 19 0), .ref (u.getD 20 0), .ref (u.getD 21 0), .ref (u.getD 22 0), .ref (u.getD 27 0)])), ((u.getD 0 0), .inr (3, [.ref (u.getD 1 0), .ref (u.getD 2 0), .ref (u.getD 3 0), .ref (u.getD 4 0), .ref (u.getD 5 0)])), ((u.getD 1 0), .inl (cI, 8, .inl (fun _ => 0))), ((u.getD 2 0), .inl (cI, 8, .inl (fun _ => 0))), ((u.getD 3 0), .inl (cI, 8, .inl (fun _ => 0))), ((u.getD 4 0), .inl (cI, 8, .inl (fun _ => 0))), ((u.getD 5 0), .inl (cI, 8, .inl (fun _ => 0))), ((u.getD 6 0), .inr (3, [.ref (u.getD 7 0), .ref (u.getD 8 0), .ref (u.getD 9 0), .ref (u.getD 10 0), .ref (u.getD 11 0)])), ((u.getD 7 0), .inl (cI, 8, .inl (fun _ => 0))), ((u.getD 8 0), .inl (cI, 8, .inl (fun _ => 0))), ((u.getD 9 0), .inl (cI, 8, .inl (fun _ => 0))), ((u.getD 10 0), .inl (cI, 8, .inl (fun _ => 0))), ((u.getD 11 0), .inl (cI, 8, .inl (fun _ => 0))), ((u.getD 12 0), .inr (2, [.ref (u.getD 13 0), .int 0])), ((u.getD 13 0), .inl (cJ, 8, .inr (.inl (fun _ => 0)))), ((u.getD 14 0), .inr (5, [.ref (u.getD 15 0), .int 0])), ((u.getD 15 0), .inl (cI, 100, .inl (fun _ => 0))), ((u.getD 16 0), .inr (5, [.ref (u.getD 17 0), .int 0])), ((u.getD 17 0), .inl (cI, 100, .inl (fun _ => 0))), ((u.getD 18 0), .inr (1, [.int 0, .int 0, .int 0, .int 0, .int 0])), ((u.getD 19 0), .inr (4, [.int 0, .int 0, .int 0])), ((u.getD 20 0), .inr (0, [.int 0, .int 0, .int 0, .int 0, .int 0, .int 0, .int 0, .int 0, .int 0, .int 0, .int 0])), ((u.getD 21 0), .inr (0, [.int 0, .int 0, .int 0, .int 0, .int 0, .int 0, .int 0, .int 0, .int 0, .int 0, .int 0])), ((u.getD 22 0), .inr (6, [.ref (u.getD 23 0), .ref (u.getD 24 0), .ref (u.getD 25 0), .ref (u.getD 26 0), .int 0, .long 0, .long 0])), ((u.getD 23 0), .inr (0, [.int 0, .int 0, .int 0, .int 0, .int 0, .int 0, .int 0, .int 0, .int 0, .int 0, .int 0])), ((u.getD 24 0), .inr (0, [.int 0, .int 0, .int 0, .int 0, .int 0, .int 0, .int 0, .int 0, .int 0, .int 0, .int 0])), ((u.getD 25 0), .inr (0, [.int 0, .int 0, .int 0, .int 0, .int 0, .int 0, .int 0, .int 0, .int 0, .int 0, .int 0])), ((u.getD 26 0), .inr (0, [.int 0, .int 0, .int 0, .int 0, .int 0, .int 0, .int 0, .int 0, .int 0, .int 0, .int 0])), ((u.getD 27 0), .inr (7, [.ref (u.getD 28 0), .int 0, .int 0, .long 0, .long 0, .int 0, .int 0])), ((u.getD 28 0), .inl (cJ, 16, .inr (.inl (fun _ => 0))))]
set_option maxHeartbeats 4000000 in
set_option maxRecDepth 100000 in
theorem whole_start {p : Program} {e : Env} {s : State} {m : MethodId} {below : List Frame} {meth : Method} {c : Code} (l : Launch) (hflags : l.flags = flags0) {b L : Nat} {xs : Nat → Int32} (hL : L ≤ 260) (C0 : lw_At p s m meth c b L xs) : W p l e room_1 s m #[Value.ref b] below meth c s.heap [] 0 0 (lw_Z below #[Value.ref b] s) (entryFrame m ([Value.ref b] : List Value).toArray 30) := by
  obtain ⟨hx, hb, hr, hml, hown, hts0, hX, hbl, hlocks, hgv⟩ := id C0
  have hA : ∀ q : Nat, s.heap.size ≤ q → lwA s q := fun _ h => h
  have hts : ∀ w ∈ kW, w.before #[.ref b] s = true := fun w hw => hts0 w (List.mem_filter.mp hw).1
  obtain ⟨dC, dI, hKc⟩ := cl_known hts
  obtain ⟨cI, kI, pI, hI1, hI2, hI3⟩ := Cond.arrayClass_spec (hts0 _ q_63)
  obtain ⟨cJ, kJ, pJ, hJ1, hJ2, hJ3⟩ := Cond.arrayClass_spec (hts0 _ q_77)
  obtain ⟨cB, kB, pB, hB1, hB2, hB3⟩ := Cond.arrayClass_spec (hts0 _ q_679)
  have hK : va_K (dC, dI) vwCl (kT cI cJ cB) s := by
    refine ⟨hKc, fun k q hq => ?_⟩
    match k, hq with
    | 0, hq => cases hq; exact ⟨fun n z => ⟨fun k h => (by cases h), kI, hI2, pI, hI3⟩, hI1⟩
    | 1, hq => cases hq; exact ⟨fun n z => ⟨fun k h => (by cases h), kJ, hJ2, pJ, hJ3⟩, hJ1⟩
    | 2, hq => cases hq; exact ⟨fun n z => ⟨fun k h => (by cases h), kB, hB2, pB, hB3⟩, hB1⟩
    | k + 3, hq => exact absurd hq (by simp [kT])
  have hN : kN s := fun w hw hk => va_Nw.of (kisN_on hk) (hts0 w hw)
  have hP : va_P (dC, dI) vwCl [] s.heap := fun k q h => by simp at h
  have hD : va_D (lwA s) [] := ⟨fun i j p q h => by simp at h, fun k q h => by simp at h⟩
  have hS : va_S (lwA s) s.heap s.heap [] := va_S.rf
  have hl := lv_entry ([.ref b]) (n := 30) (Nat.le_of_ble_eq_true rfl)
  rw [lg_entry_eq]
  generalize (lg_sl ([.ref b]) ++ List.replicate (30 - (lg_sl ([.ref b])).length) Slot.unset).toArray = ls at hl ⊢
  have hl : lv_has ls 30 [(0, .ref b)] := hl
  refine va_new (ci := 8) (fs := [.null, .null, .int 0, .null, .null, .null, .null, .null, .null, .null, .null, .null]) (C := RX9) (T := TX9) (N := 12) hx hb hts inX9 tyX9 tyX9_ok hown (hts _ (kq q_33 rfl)) (hts _ (kq q_34 rfl)) (hts _ (kq q_18 rfl)) hK hP hD hS hA rfl (fun j hj => by rcases (show j = 0 ∨ j = 1 ∨ j = 2 ∨ j = 3 ∨ j = 4 ∨ j = 5 ∨ j = 6 ∨ j = 7 ∨ j = 8 ∨ j = 9 ∨ j = 10 ∨ j = 11 by omega) with rfl | rfl | rfl | rfl | rfl | rfl | rfl | rfl | rfl | rfl | rfl | rfl <;> rfl) (Nat.le_of_ble_eq_true rfl) (Nat.le_of_ble_eq_true rfl) dL_law_0 (fun q0 H hP hD hS => ?_)
  have hP : va_P (dC, dI) vwCl [(q0, .inr (8, [.null, .null, .int 0, .null, .null, .null, .null, .null, .null, .null, .null, .null]))] H := hP
  have hD : va_D (lwA s) [(q0, .inr (8, [.null, .null, .int 0, .null, .null, .null, .null, .null, .null, .null, .null, .null]))] := hD
  refine lv_dup hx hb dL_law_3 rfl ?_
  refine kjC (mc := 29) (ms := 408) (wr := []) (w' := W9z cI cJ q0) (kIc (own := "DateSpansLaw") (As := []) (rest := [.ref q0]) (b := q0) (index := 67) (n := 0) ⟨hx, hb, hml, hown, hts⟩ (kX9_init l dC dI cI cJ cB q0 H.size) (kgN (kq q_37 rfl)) (kq q_35 rfl) (kq q_36 rfl) (kq q_18 rfl) rfl (by decide +kernel) ⟨Nat.le_of_ble_eq_true rfl, Nat.le_of_ble_eq_true rfl⟩ ⟨Nat.le_of_ble_eq_true rfl, Nat.le_of_ble_eq_true rfl⟩ hN hK hP hD [0] rfl rfl rfl rfl hl.1 rfl (lv_room (Nat.le_of_ble_eq_true rfl)) dL_law_4) hP hD hS hA [0] [] rfl rfl rfl (fun i hi => absurd hi List.not_mem_nil) (fun u H locs hP hD hS => ?_)
  have hP : va_P (dC, dI) vwCl (W9z cI cJ q0 u) H := hP
  have hD : va_D (lwA s) (W9z cI cJ q0 u) := hD
  refine lv_astore_n (lv' := [(1, .ref q0), (0, .ref b)]) hx hb dL_law_7 rfl hl (by decide) rfl (fun ls hl => ?_)
  refine lv_iconst (v := 0) hx hb dL_law_8 (by decide) ?_
  refine lv_istore_n (lv' := [(2, .int 0), (1, .ref q0), (0, .ref b)]) hx hb dL_law_9 rfl hl (by decide) rfl (fun ls hl => ?_)
  have hg := g_law (N := 200000) (Nat.le_refl _) (xc := xcell L xs) 9 0 (by omega) (by omega) 0 0 0 0 (fun _ => 0) (fun _ => 0) (fun _ => 0) (fun _ => 0) (fun _ => 0) (fun _ => 0) (fun _ => 0) (fun _ => 0) (fun _ => 0) (fun _ => 0) (fun _ => 0) (fun _ => 0) (fun _ => 0) (fun _ => 0) (fun _ => 0) (fun _ => 0) (fun _ => 0) (fun _ => 0) (fun _ => 0) (fun _ => 0) (fun _ => 0) (fun _ => 0) zLI
  rw [show zI ((0 : Nat) : Int) = (0 : Int32) by decide] at hg
  exact law_walk l dC dI cI cJ cB q0 (u.getD 0 0) (u.getD 6 0) (u.getD 12 0) (u.getD 14 0) (u.getD 16 0) (u.getD 18 0) (u.getD 19 0) (u.getD 20 0) (u.getD 21 0) (u.getD 22 0) (u.getD 27 0) (u.getD 1 0) (u.getD 2 0) (u.getD 3 0) (u.getD 4 0) (u.getD 5 0) (u.getD 7 0) (u.getD 8 0) (u.getD 9 0) (u.getD 10 0) (u.getD 11 0) (u.getD 13 0) (u.getD 15 0) (u.getD 17 0) 200000 (xcell L xs) (fun _ => rfl) hL hx hb hr hlocks hml hown hts hX hbl hN hK 9 0 0 (fun _ => 0) (fun _ => 0) (fun _ => 0) (fun _ => 0) (fun _ => 0) (fun _ => 0) (fun _ => 0) (fun _ => 0) (fun _ => 0) (fun _ => 0) 0 (fun _ => 0) 0 (fun _ => 0) 0 (fun _ => 0) (fun _ => 0) (fun _ => 0) (fun _ => 0) (fun _ => 0) _ _ ls H locs hg (lv_sub hl [2, 1, 0] rfl) (kP_sub hP [0, 1, 2, 3, 4, 5, 6, 7, 8, 9, 10, 11, 12, 13, 14, 15, 16, 17, 18, 19, 20, 21, 22] rfl) (hD.sub [0, 1, 2, 3, 4, 5, 6, 7, 8, 9, 10, 11, 12, 13, 14, 15, 16, 17, 18, 19, 20, 21, 22] rfl rfl) hS ⟨Nat.le_of_ble_eq_true rfl, Nat.le_of_ble_eq_true rfl⟩
