/-! the law from its entry -/
section KCI
variable {p : Program} {l : Launch} {e : Env} {R : Room} {s : State} {m : MethodId} {args : Array Value} {below : List Frame} {meth : Method} {c : Code} {H : Heap} {locs : List Loc} {cells slots mc ms : Nat}
variable {rest : List Value} {A0 : Nat → Prop} {free : Addr → Prop} {D : va_G} {T : List (ClassId × FieldType)} {w wc : va_W}
variable {y : MethodName} {bytes cc : ByteArray} {maxL nL n index : Nat} {fr lo : Nat} {Qc : Array Value → State → Outcome → State → Prop} {own : String} {b : Addr} {As : List Value} {g : JFrame}
theorem kIc (S : CallFix p m c cc nL s args kW own) (hM : Met l y (kws y bytes maxL none) (kRc fr mc ms lo) (va_Pc (.ref b :: As) (kPre D T wc H.size)) Qc mc ms free) (hG : GoodIn kW (kws y bytes maxL none)) (h1 : Cond.methodLink own index y ∈ kW) (h2 : Cond.instanceMethod y ∈ kW) (h4 : Cond.initialized y.cls ∈ kW) (hyn : y.name = "<init>") (hd : y.cls ≠ "java/lang/invoke/MethodHandle" ∧ y.cls ≠ "java/lang/invoke/VarHandle" ∧ (parseMethodDescriptor y.desc).map (fun d => d.parameters.length) = some n) (hR : fr + 1 ≤ R.frames ∧ 8 + (maxL + 11) + lo ≤ R.locals) (hf : cells + mc ≤ R.cells ∧ slots + ms ≤ R.slots)
    (hN : kN s) (hK : va_K D vwCl T s) (hP : va_P D vwCl w H) (hD : va_D A0 w) (isC : List Nat) (hC : isC.map (fun i => w[i]?) = wc.map some) (hn : va_nd isC = true)
    (hg : g.method = m) (hna : As.length = n) (hsize : g.locals.size = nL) (hstack : g.stack = As.reverse ++ .ref b :: rest) (hW : 2 * g.monitorRoom + (rest.map fun v => v.category).sum ≤ 8) (hdg : decode cc g.pc = .ok (.invokespecial index, 3)) :
    va_Run p l e R s m args below meth c H locs cells slots mc ms g rest (Qc (Value.ref b :: As).toArray) free :=
  va_runI S hM (cwI n S.2.2.2.2 hG rfl rfl rfl (S.2.2.2.2 _ h4) (S.2.2.2.2 _ h1) (S.2.2.2.2 _ h2) hyn hd hR) ⟨kPre_blind, kpre hN hK hP hD isC hC hn⟩ hg hna hsize hstack hW hdg hf
end KCI
set_option maxHeartbeats 4000000 in
set_option maxRecDepth 100000 in
theorem zInv : Inv 0 0 0 0 0 (fun _ => 0) (fun _ => 0) (fun _ => 0) (fun _ => 0) (fun _ => 0) (fun _ => 0) (fun _ => 0) (fun _ => 0) (fun _ => 0) (fun _ => 0) (fun _ => 0) (fun _ => 0) (fun _ => 0) (fun _ => 0) (fun _ => 0) (fun _ => 0) (fun _ => 0) (fun _ => 0) (fun _ => 0) (fun _ => 0) (fun _ => 0) (fun _ => 0) (fun _ => 0) (fun _ => 0) (fun _ => 0) (fun _ => 0) (fun _ => 0) (fun _ => 0) (fun _ => 0) (fun _ => 0) (fun _ => 0) (fun _ => 0) (fun _ => 0) (fun _ => 0) (fun _ => 0) (fun _ => 0) (fun _ => 0) (fun _ => 0) (fun _ => 0) := by
  have z1 : (0 : Int) ≤ 3652058 := by decide
  have z2 : (0 : Int) ≤ 86399 := by decide
  have a0 : AdW (fun _ => 0) := ⟨0, zl_0, by decide, by decide⟩
  refine ⟨fun _ => 0, fun _ => 0, fun _ => 0, fun _ => 0, fun _ => 0, fun k hk => ⟨zl_0, zl_0, zl_0, zl_0, ⟨Int.le_refl _, z1⟩, Int.le_refl _, z2⟩, fun k hk => ⟨zl_0, zl_0, zl_0, zl_0, zl_0, zl_0, ?_⟩, ⟨0, by decide, zl_0, zl_0, ?_⟩, ⟨0, fun _ => 0, by decide, zl_0, zl_0, fun k hk => absurd hk (Nat.not_lt_zero k)⟩, ⟨0, by decide, zl_0⟩, ⟨Or.inl zl_0, rfl, fun _ => 0, fun _ => 0, fun _ => 0, fun _ => 0, fun _ => 0, fun k hk => ⟨zl_0, zl_0, zl_0, zl_0, ⟨Int.le_refl _, z1⟩, Int.le_refl _, z2⟩, fun k hk => ⟨zl_0, zl_0, zl_0, zl_0, zl_0, zl_0, ?_⟩⟩, a0, a0, a0, a0, a0, a0⟩
  · show sp_b3 0 0 0; decide
  · exact fun k hk => absurd hk (Nat.not_lt_zero k)
  · show sp_b3 0 0 0; decide
set_option maxHeartbeats 4000000 in
set_option maxRecDepth 100000 in
theorem cl_known {s : State} {args : Array Value} (hts : ∀ w ∈ kW, w.before args s = true) : ∃ (dC : Nat → ClassId) (dI : Nat → Nat → Nat), ∀ (k : Nat) (q : vw_C), vwCl[k]? = some q → u_Kn s q.1 q.2.1 q.2.2 (dC k) (dI k) := by
  obtain ⟨c0, i0, k0⟩ := u_known (C := RX0) (T := TX0) (N := 11) (n := 11) hts inX0 (hts _ (kq q_183 rfl))
  obtain ⟨c1, i1, k1⟩ := u_known (C := RX2) (T := TX2) (N := 5) (n := 5) hts inX2 (hts _ (kq q_140 rfl))
  obtain ⟨c2, i2, k2⟩ := u_known (C := RX3) (T := TX3) (N := 2) (n := 2) hts inX3 (hts _ (kq q_113 rfl))
  obtain ⟨c3, i3, k3⟩ := u_known (C := RX4) (T := TX4) (N := 5) (n := 5) hts inX4 (hts _ (kq q_90 rfl))
  obtain ⟨c4, i4, k4⟩ := u_known (C := RX5) (T := TX5) (N := 3) (n := 3) hts inX5 (hts _ (kq q_164 rfl))
  obtain ⟨c5, i5, k5⟩ := u_known (C := RX6) (T := TX6) (N := 2) (n := 2) hts inX6 (hts _ (kq q_127 rfl))
  obtain ⟨c6, i6, k6⟩ := u_known (C := RX7) (T := TX7) (N := 7) (n := 7) hts inX7 (hts _ (kq q_228 rfl))
  obtain ⟨c7, i7, k7⟩ := u_known (C := RX8) (T := TX8) (N := 7) (n := 7) hts inX8 (hts _ (kq q_260 rfl))
  obtain ⟨c8, i8, k8⟩ := u_known (C := RX9) (T := TX9) (N := 12) (n := 12) hts inX9 (hts _ (kq q_82 rfl))
  obtain ⟨c9, i9, k9⟩ := u_known (C := RX10) (T := TX10) (N := 29) (n := 29) hts inX10 (hts _ (kq q_981 rfl))
  refine ⟨fun k => [c0, c1, c2, c3, c4, c5, c6, c7, c8, c9].getD k 0, fun k => [i0, i1, i2, i3, i4, i5, i6, i7, i8, i9].getD k (fun _ => 0), ?_⟩
  intro k q hq
  match k, hq with
  | 0, hq => cases hq; exact k0
  | 1, hq => cases hq; exact k1
  | 2, hq => cases hq; exact k2
  | 3, hq => cases hq; exact k3
  | 4, hq => cases hq; exact k4
  | 5, hq => cases hq; exact k5
  | 6, hq => cases hq; exact k6
  | 7, hq => cases hq; exact k7
  | 8, hq => cases hq; exact k8
  | 9, hq => cases hq; exact k9
  | k + 10, hq => exact absurd hq (by simp [vwCl])
abbrev t410 : List Int32 := [110, 111, 32, 115, 117, 99, 104, 32, 110, 117, 109, 98, 101, 114, 32, 111, 102, 32, 116, 104, 101, 32, 114, 111, 119]
set_option maxRecDepth 100000 in
theorem g187 : ∀ j, j < 7 → Cond.eq (.elem (.field (.string "DateSpansModel" 187) "java/lang/String" "value" "[B") (.int (Int32.ofNat j))) (.int (tx_l.getD j 0)) ∈ flatC (Jvm.Cond.and given_1 narrow_1) := by decide +kernel
set_option maxRecDepth 100000 in
theorem g410 : ∀ j, j < 25 → Cond.eq (.elem (.field (.string "DateSpans" 410) "java/lang/String" "value" "[B") (.int (Int32.ofNat j))) (.int (t410.getD j 0)) ∈ flatC (Jvm.Cond.and given_1 narrow_1) := by decide +kernel
theorem start_S {s : State} {args : Array Value} (own : String) (k n : Nat) (bs : List Int32) (hn : n < 2 ^ 31) (hgv : ∀ w ∈ flatC (Jvm.Cond.and given_1 narrow_1), w.before args s = true) (h1 : Cond.exactly (.string own k) "java/lang/String" ∈ flatC (Jvm.Cond.and given_1 narrow_1)) (h2 : Cond.eq (.field (.string own k) "java/lang/String" "coder" "B") (.int 0) ∈ flatC (Jvm.Cond.and given_1 narrow_1)) (h3 : Cond.arrayOf (.field (.string own k) "java/lang/String" "value" "[B") .byte ∈ flatC (Jvm.Cond.and given_1 narrow_1)) (h4 : Cond.eq (.length (.field (.string own k) "java/lang/String" "value" "[B")) (.int (Int32.ofNat n)) ∈ flatC (Jvm.Cond.and given_1 narrow_1)) (h5 : ∀ j, j < n → Cond.eq (.elem (.field (.string own k) "java/lang/String" "value" "[B") (.int (Int32.ofNat j))) (.int (bs.getD j 0)) ∈ flatC (Jvm.Cond.and given_1 narrow_1)) :
    ∃ aK aV : Nat, (Term.string own k).eval args s none [] s = some (.ref aK) ∧ va_O "java/lang/String" aK (lwA s) s s.heap ∧ va_OF "java/lang/String" "coder" "B" (.int 0) aK (lwA s) s s.heap ∧ va_OF "java/lang/String" "value" "[B" (.ref aV) aK (lwA s) s s.heap ∧ va_T .byte aV n (fun j => .int (bs.getD j 0)) (lwA s) s s.heap := by
  have one : ∀ i : Nat, i < 1 → i = 0 := fun i h => by omega
  obtain ⟨adK, adV, hSt, hSe⟩ := vk_Sof (args := args) (s := s) (N := 1) (tm := fun _ => .string own k) (len := [n]) (byt := [bs]) (A := lwA s) (fun i hi => by rw [one i hi]; exact hn) (fun i hi => hgv _ h1) (fun i hi => hgv _ h2) (fun i hi => hgv _ h3) (fun i hi => by rw [one i hi]; exact hgv _ h4) (fun i hi j hj => by rw [one i hi] at hj ⊢; exact hgv _ (h5 j hj)) (fun i j hi hj hne => absurd ((one i hi).trans (one j hj).symm) hne) (fun a h z => absurd z (Nat.not_le.mpr h))
  obtain ⟨r1, r2, r3, r4⟩ := hSt.1 0 (by decide)
  exact ⟨adK 0, adV 0, hSe 0 (by decide), r1, r2, r3, r4⟩
theorem st_flags {l : Launch} (h : l.flags = flags0) : l.stackTraces = false := by
  unfold Launch.stackTraces
  rw [h]
  decide
def W9z (cI cJ : ClassId) (q0 : Nat) (u : List Nat) : va_W := [(q0, .inr (8, [.ref (u.getD 0 0), .ref (u.getD 6 0), .int 0, .ref (u.getD 12 0), .ref (u.getD 14 0), .ref (u.getD 16 0), .ref (u.getD 18 0), .ref (u.getD 19 0), .ref (u.getD 20 0), .ref (u.getD 21 0), .ref (u.getD 22 0), .ref (u.getD 27 0)])), ((u.getD 0 0), .inr (3, [.ref (u.getD 1 0), .ref (u.getD 2 0), .ref (u.getD 3 0), .ref (u.getD 4 0), .ref (u.getD 5 0)])), ((u.getD 1 0), .inl (cI, 8, .inl (fun _ => 0))), ((u.getD 2 0), .inl (cI, 8, .inl (fun _ => 0))), ((u.getD 3 0), .inl (cI, 8, .inl (fun _ => 0))), ((u.getD 4 0), .inl (cI, 8, .inl (fun _ => 0))), ((u.getD 5 0), .inl (cI, 8, .inl (fun _ => 0))), ((u.getD 6 0), .inr (3, [.ref (u.getD 7 0), .ref (u.getD 8 0), .ref (u.getD 9 0), .ref (u.getD 10 0), .ref (u.getD 11 0)])), ((u.getD 7 0), .inl (cI, 8, .inl (fun _ => 0))), ((u.getD 8 0), .inl (cI, 8, .inl (fun _ => 0))), ((u.getD 9 0), .inl (cI, 8, .inl (fun _ => 0))), ((u.getD 10 0), .inl (cI, 8, .inl (fun _ => 0))), ((u.getD 11 0), .inl (cI, 8, .inl (fun _ => 0))), ((u.getD 12 0), .inr (2, [.ref (u.getD 13 0), .int 0])), ((u.getD 13 0), .inl (cJ, 8, .inr (.inl (fun _ => 0)))), ((u.getD 14 0), .inr (5, [.ref (u.getD 15 0), .int 0])), ((u.getD 15 0), .inl (cI, 100, .inl (fun _ => 0))), ((u.getD 16 0), .inr (5, [.ref (u.getD 17 0), .int 0])), ((u.getD 17 0), .inl (cI, 100, .inl (fun _ => 0))), ((u.getD 18 0), .inr (1, [.int 0, .int 0, .int 0, .int 0, .int 0])), ((u.getD 19 0), .inr (4, [.int 0, .int 0, .int 0])), ((u.getD 20 0), .inr (0, [.int 0, .int 0, .int 0, .int 0, .int 0, .int 0, .int 0, .int 0, .int 0, .int 0, .int 0])), ((u.getD 21 0), .inr (0, [.int 0, .int 0, .int 0, .int 0, .int 0, .int 0, .int 0, .int 0, .int 0, .int 0, .int 0])), ((u.getD 22 0), .inr (6, [.ref (u.getD 23 0), .ref (u.getD 24 0), .ref (u.getD 25 0), .ref (u.getD 26 0), .int 0, .long 0, .long 0])), ((u.getD 23 0), .inr (0, [.int 0, .int 0, .int 0, .int 0, .int 0, .int 0, .int 0, .int 0, .int 0, .int 0, .int 0])), ((u.getD 24 0), .inr (0, [.int 0, .int 0, .int 0, .int 0, .int 0, .int 0, .int 0, .int 0, .int 0, .int 0, .int 0])), ((u.getD 25 0), .inr (0, [.int 0, .int 0, .int 0, .int 0, .int 0, .int 0, .int 0, .int 0, .int 0, .int 0, .int 0])), ((u.getD 26 0), .inr (0, [.int 0, .int 0, .int 0, .int 0, .int 0, .int 0, .int 0, .int 0, .int 0, .int 0, .int 0])), ((u.getD 27 0), .inr (7, [.ref (u.getD 28 0), .int 0, .int 0, .long 0, .long 0, .int 0, .int 0])), ((u.getD 28 0), .inl (cJ, 16, .inr (.inl (fun _ => 0))))]
def W10z (cI cJ cB : ClassId) (q1 : Nat) (u2 : List Nat) : va_W := [(q1, .inr (9, [.ref (u2.getD 0 0), .ref (u2.getD 1 0), .ref (u2.getD 2 0), .ref (u2.getD 3 0), .int 0, .ref (u2.getD 4 0), .int 0, .ref (u2.getD 5 0), .int 0, .int 0, .int 0, .int 0, .int 0, .int 0, .int 0, .int 0, .int 0, .int 0, .int 0, .ref (u2.getD 6 0), .long 0, .ref (u2.getD 7 0), .ref (u2.getD 8 0), .ref (u2.getD 9 0), .int 0, .long 0, .long 0, .ref (u2.getD 10 0), .int 0])), ((u2.getD 0 0), .inl (cI, 8, .inl (fun _ => 0))), ((u2.getD 1 0), .inl (cI, 8, .inl (fun _ => 0))), ((u2.getD 2 0), .inl (cI, 24, .inl (fun _ => 0))), ((u2.getD 3 0), .inl (cI, 40, .inl (fun _ => 0))), ((u2.getD 4 0), .inl (cB, 100, .inl (fun _ => 0))), ((u2.getD 5 0), .inl (cJ, 16, .inr (.inl (fun _ => 0)))), ((u2.getD 6 0), .inl (cI, 3, .inl (fun _ => 0))), ((u2.getD 7 0), .inl (cI, 3, .inl (fun _ => 0))), ((u2.getD 8 0), .inl (cI, 3, .inl (fun _ => 0))), ((u2.getD 9 0), .inl (cJ, 128, .inr (.inl (fun _ => 0)))), ((u2.getD 10 0), .inl (cB, 128, .inl (fun _ => 0)))]
def hz (q0 q1 q2 : Nat) (u u2 : List Nat) : Nat → Nat := fun k => ([q0, u.getD 0 0, u.getD 1 0, u.getD 2 0, u.getD 3 0, u.getD 4 0, u.getD 5 0, u.getD 6 0, u.getD 7 0, u.getD 8 0, u.getD 9 0, u.getD 10 0, u.getD 11 0, u.getD 12 0, u.getD 13 0, u.getD 14 0, u.getD 15 0, u.getD 16 0, u.getD 17 0, u.getD 18 0, u.getD 19 0, u.getD 20 0, u.getD 21 0, u.getD 22 0, u.getD 23 0, u.getD 24 0, u.getD 25 0, u.getD 26 0, u.getD 27 0, u.getD 28 0, q1, u2.getD 0 0, u2.getD 1 0, u2.getD 2 0, u2.getD 3 0, u2.getD 4 0, u2.getD 5 0, u2.getD 6 0, u2.getD 7 0, u2.getD 8 0, u2.getD 9 0, u2.getD 10 0, q2] : List Nat).getD k 0
set_option maxHeartbeats 4000000 in
set_option maxRecDepth 100000 in
theorem whole_start {p : Program} {e : Env} {s : State} {m : MethodId} {below : List Frame} {meth : Method} {c : Code} (l : Launch) (hflags : l.flags = flags0) {b L : Nat} {xs : Nat → Int32} (hL : L ≤ 3584) (C0 : lw_At p s m meth c b L xs) : W p l e room_1 s m #[Value.ref b] below meth c s.heap [] 0 0 (lw_Z below #[Value.ref b] s) (entryFrame m ([Value.ref b] : List Value).toArray 8) := by
  obtain ⟨hx, hb, hr, hml, hown, hts0, hX, hbl, hlocks, hgv⟩ := id C0
  have hA : ∀ q : Nat, s.heap.size ≤ q → lwA s q := fun _ h => h
  have hnA : ∀ a : Nat, a < s.heap.size → ¬ lwA s a := fun a h z => absurd z (Nat.not_le.mpr h)
  have hg := flat_of_before _ hgv
  have hts : ∀ w ∈ kW, w.before #[.ref b] s = true := fun w hw => hts0 w (List.mem_filter.mp hw).1
  obtain ⟨dC, dI, hKc⟩ := cl_known hts
  obtain ⟨cI, kI, pI, hI1, hI2, hI3⟩ := Cond.arrayClass_spec (hts0 _ q_111)
  obtain ⟨cJ, kJ, pJ, hJ1, hJ2, hJ3⟩ := Cond.arrayClass_spec (hts0 _ q_125)
  obtain ⟨cB, kB, pB, hB1, hB2, hB3⟩ := Cond.arrayClass_spec (hts0 _ q_979)
  have hK : va_K (dC, dI) vwCl (kT cI cJ cB) s := by
    refine ⟨hKc, fun k q hq => ?_⟩
    match k, hq with
    | 0, hq => cases hq; exact ⟨fun n z => ⟨fun k h => (by cases h), kI, hI2, pI, hI3⟩, hI1⟩
    | 1, hq => cases hq; exact ⟨fun n z => ⟨fun k h => (by cases h), kJ, hJ2, pJ, hJ3⟩, hJ1⟩
    | 2, hq => cases hq; exact ⟨fun n z => ⟨fun k h => (by cases h), kB, hB2, pB, hB3⟩, hB1⟩
    | k + 3, hq => exact absurd hq (by simp [kT])
  have hN : kN s := fun w hw hk => va_Nw.of (kisN_on hk) (hts0 w hw)
  obtain ⟨aK, aV, g0, g1, g2, g3, g4⟩ := start_S (s := s) (args := #[.ref b]) "DateSpansModel" 187 7 tx_l (by decide) hg (by decide +kernel) (by decide +kernel) (by decide +kernel) (by decide +kernel) g187
  obtain ⟨sa, sV, s0, -, -, -, -⟩ := start_S (s := s) (args := #[.ref b]) "DateSpans" 410 25 t410 (by decide) hg (by decide +kernel) (by decide +kernel) (by decide +kernel) (by decide +kernel) g410
  have hG : kG aK aV (lwA s) s s.heap := ⟨vk_R.of (hts0 _ q_1166) g0, g1, g2, g3, g4, va_Zof (hts0 _ q_1176) (hts0 _ q_68) (va_eqi (hg _ (by decide +kernel))) hnA, va_Zqof (hts0 _ q_1184) (hts0 _ q_70) (hg _ (by decide +kernel)) hnA⟩
  have hE : kE sa (lwA s) s s.heap := ⟨vk_R.of (hts0 _ q_953) s0, vx_Zqof (hts0 _ q_941) (hts0 _ (List.mem_of_getElem? (i := 77) (by decide +kernel))) (hg _ (by decide +kernel)) hnA, vx_Zqof (hts0 _ q_943) (hts0 _ (List.mem_of_getElem? (i := 77) (by decide +kernel))) (hg _ (by decide +kernel)) hnA, va_Nw.of rfl (hts0 _ (List.mem_of_getElem? (i := 918) (by decide +kernel))), va_Nw.of rfl (hts0 _ (List.mem_of_getElem? (i := 920) (by decide +kernel))), va_Nw.of rfl (hts0 _ (List.mem_of_getElem? (i := 922) (by decide +kernel))), va_Nw.of rfl (hts0 _ (List.mem_of_getElem? (i := 916) (by decide +kernel)))⟩
  have C : LC p l s m c b L xs (dC, dI) cI cJ cB aK aV sa := ⟨hx, hb, hml, hown, fun d => dr_words hts d, hX, hbl, fun d => va_K.moved (u := s) (U := s.setDrawn d) (Vm.Alike.refl s.vm) hK, fun d => kN.same (u := s) (U := s.setDrawn d) rfl hN, fun d => kG.warm (U := s.setDrawn d) (State.WarmedH.refl s) hG, fun d => kE.pass (U := s.setDrawn d) hE va_S.rf (fun _ h => h) rfl (State.WarmedH.refl s), st_flags hflags, hL⟩
  have hd0 := Drawn.sameBut.refl s.drawn lw_cs
  refine W.base ?_
  have hP : va_P (dC, dI) vwCl [] s.heap := fun k q h => by simp at h
  have hD : va_D (lwA s) [] := ⟨fun i j p q h => by simp at h, fun k q h => by simp at h⟩
  have hS : va_S (lwA s) s.heap s.heap [] := va_S.rf
  have hl := lv_entry ([.ref b]) (n := 8) (Nat.le_of_ble_eq_true rfl)
  rw [lg_entry_eq]
  generalize (lg_sl ([.ref b]) ++ List.replicate (8 - (lg_sl ([.ref b])).length) Slot.unset).toArray = ls at hl ⊢
  have hl : lv_has ls 8 [(0, .ref b)] := hl
  refine va_new (ci := 8) (fs := [.null, .null, .int 0, .null, .null, .null, .null, .null, .null, .null, .null, .null]) (C := RX9) (T := TX9) (N := 12) hx hb (C.hts s.drawn) inX9 tyX9 tyX9_ok hown (C.hts s.drawn _ (kq q_81 rfl)) (C.hts s.drawn _ (kq q_82 rfl)) (C.hts s.drawn _ (kq q_57 rfl)) (C.hK s.drawn) hP hD hS hA rfl (fun j hj => by rcases (show j = 0 ∨ j = 1 ∨ j = 2 ∨ j = 3 ∨ j = 4 ∨ j = 5 ∨ j = 6 ∨ j = 7 ∨ j = 8 ∨ j = 9 ∨ j = 10 ∨ j = 11 by omega) with rfl | rfl | rfl | rfl | rfl | rfl | rfl | rfl | rfl | rfl | rfl | rfl <;> rfl) (Nat.le_of_ble_eq_true rfl) (Nat.le_of_ble_eq_true rfl) dL_law_0 (fun q0 H hP hD hS => ?_)
  have hP : va_P (dC, dI) vwCl [(q0, .inr (8, [.null, .null, .int 0, .null, .null, .null, .null, .null, .null, .null, .null, .null]))] H := hP
  have hD : va_D (lwA s) [(q0, .inr (8, [.null, .null, .int 0, .null, .null, .null, .null, .null, .null, .null, .null, .null]))] := hD
  refine lv_dup hx hb dL_law_3 rfl ?_
  refine kjC (mc := 29) (ms := 408) (wr := []) (w' := W9z cI cJ q0) (kIc (own := "DateSpansLaw") (As := []) (rest := [.ref q0]) (b := q0) (index := 15) (n := 0) ⟨hx, hb, hml, hown, C.hts s.drawn⟩ (kX9_init l dC dI cI cJ cB q0 H.size) (kgN (kq q_85 rfl)) (kq q_83 rfl) (kq q_84 rfl) (kq q_57 rfl) rfl (by decide +kernel) ⟨Nat.le_of_ble_eq_true rfl, Nat.le_of_ble_eq_true rfl⟩ ⟨Nat.le_of_ble_eq_true rfl, Nat.le_of_ble_eq_true rfl⟩ (C.hN s.drawn) (C.hK s.drawn) hP hD [0] rfl rfl rfl rfl hl.1 rfl (lv_room (Nat.le_of_ble_eq_true rfl)) dL_law_4) hP hD hS hA [0] [] rfl rfl rfl (fun i hi => absurd hi List.not_mem_nil) (fun u H locs hP hD hS => ?_)
  have hP : va_P (dC, dI) vwCl (W9z cI cJ q0 u) H := hP
  have hD : va_D (lwA s) (W9z cI cJ q0 u) := hD
  refine lv_astore_n (lv' := [(1, .ref q0), (0, .ref b)]) hx hb dL_law_7 rfl hl (by decide) rfl (fun ls hl => ?_)
  refine va_new (ci := 9) (fs := [.null, .null, .null, .null, .int 0, .null, .int 0, .null, .int 0, .int 0, .int 0, .int 0, .int 0, .int 0, .int 0, .int 0, .int 0, .int 0, .int 0, .null, .long 0, .null, .null, .null, .int 0, .long 0, .long 0, .null, .int 0]) (C := RX10) (T := TX10) (N := 29) hx hb (C.hts s.drawn) inX10 tyX10 tyX10_ok hown (C.hts s.drawn _ (kq q_980 rfl)) (C.hts s.drawn _ (kq q_981 rfl)) (C.hts s.drawn _ (kq q_66 rfl)) (C.hK s.drawn) hP hD hS hA rfl (fun j hj => by rcases (show j = 0 ∨ j = 1 ∨ j = 2 ∨ j = 3 ∨ j = 4 ∨ j = 5 ∨ j = 6 ∨ j = 7 ∨ j = 8 ∨ j = 9 ∨ j = 10 ∨ j = 11 ∨ j = 12 ∨ j = 13 ∨ j = 14 ∨ j = 15 ∨ j = 16 ∨ j = 17 ∨ j = 18 ∨ j = 19 ∨ j = 20 ∨ j = 21 ∨ j = 22 ∨ j = 23 ∨ j = 24 ∨ j = 25 ∨ j = 26 ∨ j = 27 ∨ j = 28 by omega) with rfl | rfl | rfl | rfl | rfl | rfl | rfl | rfl | rfl | rfl | rfl | rfl | rfl | rfl | rfl | rfl | rfl | rfl | rfl | rfl | rfl | rfl | rfl | rfl | rfl | rfl | rfl | rfl | rfl <;> rfl) (Nat.le_of_ble_eq_true rfl) (Nat.le_of_ble_eq_true rfl) dL_law_8 (fun q1 H hP hD hS => ?_)
  refine lv_dup hx hb dL_law_11 rfl ?_
  refine kjC (mc := 11) (ms := 461) (wr := W9z cI cJ q0 u) (w' := W10z cI cJ cB q1) (kIc (own := "DateSpansLaw") (As := []) (rest := [.ref q1]) (b := q1) (index := 18) (n := 0) ⟨hx, hb, hml, hown, C.hts s.drawn⟩ (kX10_init l dC dI cI cJ cB q1 H.size) (kgN (kq q_984 rfl)) (kq q_982 rfl) (kq q_983 rfl) (kq q_66 rfl) rfl (by decide +kernel) ⟨Nat.le_of_ble_eq_true rfl, Nat.le_of_ble_eq_true rfl⟩ ⟨Nat.le_of_ble_eq_true rfl, Nat.le_of_ble_eq_true rfl⟩ (C.hN s.drawn) (C.hK s.drawn) hP hD [30] rfl rfl rfl rfl hl.1 rfl (lv_room (Nat.le_of_ble_eq_true rfl)) dL_law_12) hP hD hS hA [30] [0, 1, 2, 3, 4, 5, 6, 7, 8, 9, 10, 11, 12, 13, 14, 15, 16, 17, 18, 19, 20, 21, 22, 23, 24, 25, 26, 27, 28, 29] rfl rfl rfl (by decide) (fun u2 H locs hP hD hS => ?_)
  refine lv_astore_n (lv' := [(2, .ref q1), (1, .ref q0), (0, .ref b)]) hx hb dL_law_15 rfl hl (by decide) rfl (fun ls hl => ?_)
  refine lv_iconst (v := 1) hx hb dL_law_16 (by decide) ?_
  refine k_newa (atype := .long) (N' := 1) (a0 := (1, .inr (.inl (fun _ => 0)))) hx hb (C.hts s.drawn _ (kq q_125 rfl)) rfl (C.hK s.drawn) hP hD hS hA (fun _ => rfl) (by decide) (by decide) (by decide) (Nat.le_of_ble_eq_true rfl) (Nat.le_of_ble_eq_true rfl) (cT := cJ) 1 rfl dL_law_17 (fun q2 H hP hD hS => ?_)
  refine lv_astore_n (lv' := [(3, .ref q2), (2, .ref q1), (1, .ref q0), (0, .ref b)]) hx hb dL_law_19 rfl hl (by decide) rfl (fun ls hl => ?_)
  refine lv_iconst (v := 0) hx hb dL_law_20 (by decide) ?_
  refine lv_istore (lv' := [(4, .int 0), (3, .ref q2), (2, .ref q1), (1, .ref q0), (0, .ref b)]) hx hb dL_law_21 hl (by decide) rfl (fun ls hl => ?_)
  exact law_loop (h := hz q0 q1 q2 u u2) C hr hlocks 512 0 _ _ s.drawn 0 0 0 0 0 (fun _ => 0) (fun _ => 0) (fun _ => 0) (fun _ => 0) (fun _ => 0) (fun _ => 0) (fun _ => 0) (fun _ => 0) (fun _ => 0) (fun _ => 0) (fun _ => 0) (fun _ => 0) (fun _ => 0) (fun _ => 0) (fun _ => 0) (fun _ => 0) (fun _ => 0) (fun _ => 0) (fun _ => 0) (fun _ => 0) (fun _ => 0) (fun _ => 0) (fun _ => 0) (fun _ => 0) (fun _ => 0) (fun _ => 0) (fun _ => 0) (fun _ => 0) (fun _ => 0) (fun _ => 0) (fun _ => 0) (fun _ => 0) (fun _ => 0) (fun _ => 0) (fun _ => 0) (fun _ => 0) (fun _ => 0) (fun _ => 0) (fun _ => 0) H _ ls (Nat.le_of_ble_eq_true rfl) (Nat.le_of_ble_eq_true rfl) (by omega) (by omega) hd0 zInv hl hP hD hS
