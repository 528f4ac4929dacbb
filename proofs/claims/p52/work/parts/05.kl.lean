/-! the layer: contracts over worlds of fixed cells; calls, ends -/
abbrev kT (cI cJ cB : ClassId) : List (ClassId × FieldType) := [(cI, .int), (cJ, .long), (cB, .byte)]
abbrev kR (f lo : Nat) : Room := { frames := f, cells := 0, slots := 0, locals := lo }
def kW : List Cond := lw_tbl.filter goodWord
theorem kq {w : Cond} (h : w ∈ lw_tbl) (hg : goodWord w = true) : w ∈ kW := List.mem_filter.mpr ⟨h, hg⟩
abbrev kws (y : MethodName) (cc : ByteArray) (n : Nat) (ret : Option FieldType) : List Cond := Cond.code y cc n ret :: kW
theorem kgood {ws : List Cond} (h : ∀ w ∈ ws, w ∈ kW) : GoodIn kW ws := fun w hw => ⟨h w hw, good_of_word (List.mem_filter.mp (h w hw)).2⟩
def kisN : Cond → Bool
  | .fieldLinkNest .. => true
  | .methodLinkNest .. => true
  | _ => false
/-- the links to private members of nest mates: what a start must have of them -/
def kN (U : State) : Prop := ∀ w ∈ lw_tbl, kisN w = true → va_Nw w U
theorem kisN_on {w : Cond} (h : kisN w = true) : w.onTables = true := by cases w <;> first | rfl | cases h
theorem kN.same {u U : State} (h : u.vm = U.vm) (hN : kN u) : kN U := fun w hw hk => va_Nw.same (kisN_on hk) h (hN w hw hk)
theorem kN.warm {s U : State} (hW : s.WarmedH U.vm) (hN : kN s) : kN U := by
  intro w hw hk
  have h := hN w hw hk
  cases w <;> first | exact va_Nw.warmF hW h | exact va_Nw.warmM hW h | cases hk
theorem kN.use {w : Cond} {A : Array Value} {U : State} (hN : kN U) (hw : w ∈ lw_tbl) (hk : kisN w = true) : w.before A U = true := va_Nw.use (kisN_on hk) (hN w hw hk)
theorem kgV {own C : String} {idx : Nat} {y : MethodName} {cc : ByteArray} {n : Nat} {ret : Option FieldType} (h1 : Cond.methodLink own idx y ∈ kW) (h2 : Cond.instanceMethod y ∈ kW) (h3 : Cond.selects C y y ∈ kW) (h4 : Cond.initialized C ∈ kW) (h5 : Cond.code y cc n ret ∈ kW) : GoodIn kW (wsV own idx C y (kws y cc n ret)) := by
  refine kgood ?_
  intro w hw
  rcases List.mem_append.mp hw with hw | hw
  · rcases List.mem_cons.mp hw with rfl | hw
    · exact h1
    rcases List.mem_cons.mp hw with rfl | hw
    · exact h2
    rcases List.mem_cons.mp hw with rfl | hw
    · exact h3
    rcases List.mem_cons.mp hw with rfl | hw
    · exact h4
    exact absurd hw List.not_mem_nil
  · rcases List.mem_cons.mp hw with rfl | hw
    · exact h5
    · exact hw
theorem kgS {own : String} {idx : Nat} {y : MethodName} {cc : ByteArray} {n : Nat} {ret : Option FieldType} (h1 : Cond.methodLink own idx y ∈ kW) (h2 : Cond.static y ∈ kW) (h4 : Cond.initialized y.cls ∈ kW) (h5 : Cond.code y cc n ret ∈ kW) : GoodIn kW (va_wsS own idx y (kws y cc n ret)) := by
  refine kgood ?_
  intro w hw
  rcases List.mem_append.mp hw with hw | hw
  · rcases List.mem_cons.mp hw with rfl | hw
    · exact h1
    rcases List.mem_cons.mp hw with rfl | hw
    · exact h2
    rcases List.mem_cons.mp hw with rfl | hw
    · exact h4
    exact absurd hw List.not_mem_nil
  · rcases List.mem_cons.mp hw with rfl | hw
    · exact h5
    · exact hw
theorem kgN {y : MethodName} {cc : ByteArray} {n : Nat} {ret : Option FieldType} (h5 : Cond.code y cc n ret ∈ kW) : GoodIn kW (kws y cc n ret) := by
  refine kgood ?_
  intro w hw
  rcases List.mem_cons.mp hw with rfl | hw
  · exact h5
  · exact hw
theorem kin {a : List Cond} (ps : List Nat) (h : a = ps.filterMap (fun i => lw_tbl[i]?)) (hg : a.all goodWord = true) : ∀ w ∈ a, w ∈ kW := by
  intro w hw
  have h2 := List.all_eq_true.mp hg w hw
  rw [h] at hw
  obtain ⟨i, -, hi⟩ := List.mem_filterMap.mp hw
  exact kq (List.mem_of_getElem? hi) h2
/-- cells of w at the places isC become w1 -/
def kput : va_W → List Nat → va_W → va_W
  | w, i :: is, x :: xs => kput (w.set i x) is xs
  | w, _, _ => w
theorem kput_mem : ∀ (is : List Nat) (xs w : va_W) (k : Nat) (q : Nat × va_E), is.length = xs.length → (kput w is xs)[k]? = some q → q ∈ xs ∨ (w[k]? = some q ∧ k ∉ is)
  | [], [], w, k, q, _, h => Or.inr ⟨h, List.not_mem_nil⟩
  | i :: is, x :: xs, w, k, q, hl, h => by
    rcases kput_mem is xs (w.set i x) k q (Nat.succ.inj hl) h with h1 | ⟨h1, h2⟩
    · exact Or.inl (List.mem_cons_of_mem _ h1)
    · by_cases e : i = k
      · subst e
        rw [List.getElem?_set] at h1
        simp only [if_true] at h1
        split at h1
        · cases h1; exact Or.inl List.mem_cons_self
        · cases h1
      · rw [List.getElem?_set_ne e] at h1
        refine Or.inr ⟨h1, fun z => ?_⟩
        rcases List.mem_cons.mp z with z | z
        · exact e z.symm
        · exact h2 z
theorem kput_ad : ∀ (is : List Nat) (xs w : va_W), is.map (fun i => (w.map Prod.fst)[i]?) = xs.map (fun x => some x.1) → (kput w is xs).map Prod.fst = w.map Prod.fst
  | [], xs, w, _ => by cases xs <;> rfl
  | i :: is, [], w, h => by cases h
  | i :: is, x :: xs, w, h => by
    have h0 : (w.map Prod.fst)[i]? = some x.1 := (List.cons.inj h).1
    have h1 : is.map (fun i => (w.map Prod.fst)[i]?) = xs.map (fun x => some x.1) := (List.cons.inj h).2
    have e : (w.set i x).map Prod.fst = w.map Prod.fst := by
      rw [List.map_set]
      refine List.ext_getElem? fun k => ?_
      by_cases ek : i = k
      · subst ek
        rw [h0, List.getElem?_set]
        simp only [if_true]
        have hlt : i < (w.map Prod.fst).length := (List.getElem?_eq_some_iff.mp h0).1
        rw [if_pos hlt]
      · rw [List.getElem?_set_ne ek]
    have := kput_ad is xs (w.set i x) (by rw [e]; exact h1)
    exact this.trans e
theorem kD_ad {A : Nat → Prop} {w w' : va_W} (h : va_D A w) (e : w'.map Prod.fst = w.map Prod.fst) : va_D A w' := by
  have key : ∀ (k : Nat) (q : Nat × va_E), w'[k]? = some q → ∃ q', w[k]? = some q' ∧ q'.1 = q.1 := by
    intro k q hk
    have h1 : (w'.map Prod.fst)[k]? = some q.1 := by rw [List.getElem?_map, hk]; rfl
    rw [e, List.getElem?_map] at h1
    cases hw : w[k]? with
    | none => rw [hw] at h1; cases h1
    | some q' => rw [hw] at h1; exact ⟨q', rfl, Option.some.inj h1⟩
  refine ⟨fun i j p q hp hq hpq => ?_, fun k q hk => ?_⟩
  · obtain ⟨p', hp', ep⟩ := key i p hp
    obtain ⟨q', hq', eq⟩ := key j q hq
    exact h.1 i j p' q' hp' hq' (by rw [ep, eq, hpq])
  · obtain ⟨q', hq', eq⟩ := key k q hk
    rw [← eq]
    exact h.2 k q' hq'
theorem kP_sub {D : va_G} {w wc : va_W} {H : Heap} (hP : va_P D vwCl w H) (isC : List Nat) (hC : isC.map (fun i => w[i]?) = wc.map some) : va_P D vwCl wc H := by
  intro k q hk
  have h1 : (isC.map (fun i => w[i]?))[k]? = some (some q) := by rw [hC, List.getElem?_map, hk]; rfl
  rw [List.getElem?_map] at h1
  cases hi : isC[k]? with
  | none => rw [hi] at h1; cases h1
  | some i => rw [hi] at h1; exact hP i q (Option.some.inj h1)
theorem kmap_fst {w wc : va_W} {isC : List Nat} (hC : isC.map (fun i => w[i]?) = wc.map some) : isC.map (fun i => (w.map Prod.fst)[i]?) = wc.map (fun x => some x.1) := by
  have h1 : (isC.map (fun i => w[i]?)).map (Option.map Prod.fst) = (wc.map some).map (Option.map Prod.fst) := by rw [hC]
  rw [List.map_map, List.map_map] at h1
  refine Eq.trans ?_ (h1.trans ?_)
  · exact List.map_congr_left fun i _ => by simp
  · exact List.map_congr_left fun x _ => rfl
/-- behind a call: the world with the callee's cells as it left them -/
theorem kjoin {A0 : Nat → Prop} {D : va_G} {w wc w1 : va_W} {H H1 : Heap} (hP : va_P D vwCl w H) (hD : va_D A0 w) (isC : List Nat) (hC : isC.map (fun i => w[i]?) = wc.map some) (hw : w1.map Prod.fst = wc.map Prod.fst)
    (hk : ∀ q : Nat, q < H.size → ¬ va_A wc H.size q → H1[q]? = H[q]?) (hP1 : va_P D vwCl w1 H1) : va_P D vwCl (kput w isC w1) H1 ∧ va_D A0 (kput w isC w1) := by
  have hlen : isC.length = w1.length := by
    have h1 := congrArg List.length hC
    have h2 := congrArg List.length hw
    simp only [List.length_map] at h1 h2
    omega
  have had : (kput w isC w1).map Prod.fst = w.map Prod.fst := by
    refine kput_ad isC w1 w ?_
    rw [kmap_fst hC]
    have h2 : (wc.map Prod.fst).map some = (w1.map Prod.fst).map some := by rw [hw]
    rw [List.map_map, List.map_map] at h2
    exact h2
  refine ⟨fun k q hq => ?_, kD_ad hD had⟩
  rcases kput_mem isC w1 w k q hlen hq with h | ⟨h, hn⟩
  · obtain ⟨j, hj⟩ := List.getElem?_of_mem h
    exact hP1 j q hj
  · refine (hP k q h).kept (hk q.1 (hP k q h).lt ?_)
    rintro (⟨j, e, hj⟩ | hz)
    · have h3 : (isC.map (fun i => w[i]?))[j]? = some (some (q.1, e)) := by rw [hC, List.getElem?_map, hj]; rfl
      rw [List.getElem?_map] at h3
      cases hi : isC[j]? with
      | none => rw [hi] at h3; cases h3
      | some i =>
        rw [hi] at h3
        have h4 : w[i]? = some (q.1, e) := Option.some.inj h3
        have : k = i := hD.1 k i q (q.1, e) h h4 rfl
        subst this
        exact hn (List.mem_of_getElem? hi)
    · have := (hP k q h).lt
      omega
def kPre (D : va_G) (T : List (ClassId × FieldType)) (w : va_W) (sz : Nat) : State → Prop := fun U => U.heap.size = sz ∧ va_P D vwCl w U.heap ∧ va_K D vwCl T U ∧ va_D (fun _ => True) w ∧ kN U
theorem kPre_blind {D : va_G} {T : List (ClassId × FieldType)} {w : va_W} {sz : Nat} {av : List Value} : FrameBlind (va_Pc av (kPre D T w sz)) :=
  fun a U g mk q => ⟨q.1, q.2.1, q.2.2.1, va_K.moved (u := U) (U := U.calling g mk a) (Vm.Alike.refl U.vm) q.2.2.2.1, q.2.2.2.2.1, kN.same (u := U) (U := U.calling g mk a) rfl q.2.2.2.2.2⟩
def MI (l : Launch) (y : MethodName) (ws : List Cond) (rm : Room) (D : va_G) (T : List (ClassId × FieldType)) (av : List Value) (w w' : va_W) (r : Int32) : Prop :=
  ∀ sz : Nat, Met l y ws rm (va_Pc av (kPre D T w sz)) (va_Qi (fun (x : Int32) (_ : Unit) => r = x) (fun _ t => va_P D vwCl w' t.heap) (va_A w sz)) 0 0 (va_A w sz)
def ML (l : Launch) (y : MethodName) (ws : List Cond) (rm : Room) (D : va_G) (T : List (ClassId × FieldType)) (av : List Value) (w w' : va_W) (r : Int64) : Prop :=
  ∀ sz : Nat, Met l y ws rm (va_Pc av (kPre D T w sz)) (va_Ql (fun (x : Int64) (_ : Unit) => r = x) (fun _ t => va_P D vwCl w' t.heap) (va_A w sz)) 0 0 (va_A w sz)
def MD (l : Launch) (y : MethodName) (ws : List Cond) (rm : Room) (D : va_G) (T : List (ClassId × FieldType)) (av : List Value) (w w' : va_W) (r : UInt64) : Prop :=
  ∀ sz : Nat, Met l y ws rm (va_Pc av (kPre D T w sz)) (va_Qd (fun (x : UInt64) (_ : Unit) => r = x) (fun _ t => va_P D vwCl w' t.heap) (va_A w sz)) 0 0 (va_A w sz)
def MV (l : Launch) (y : MethodName) (ws : List Cond) (rm : Room) (D : va_G) (T : List (ClassId × FieldType)) (av : List Value) (w w' : va_W) : Prop :=
  ∀ sz : Nat, Met l y ws rm (va_Pc av (kPre D T w sz)) (va_Qv (fun (_ : Unit) => True) (fun _ t => va_P D vwCl w' t.heap) (va_A w sz)) 0 0 (va_A w sz)
def SI (l : Launch) (y : MethodName) (ws : List Cond) (rm : Room) (av : List Value) (r : Int32) : Prop := Met l y ws rm (va_Pc av (fun _ => True)) (vp_Si (fun x => r = x)) 0 0 (fun _ => False)
def SL (l : Launch) (y : MethodName) (ws : List Cond) (rm : Room) (av : List Value) (r : Int64) : Prop := Met l y ws rm (va_Pc av (fun _ => True)) (vp_Sl (fun x => r = x)) 0 0 (fun _ => False)
section KC
variable {p : Program} {l : Launch} {e : Env} {R : Room} {s : State} {m : MethodId} {args : Array Value} {below : List Frame} {meth : Method} {c : Code} {H : Heap} {locs : List Loc} {Q : State → Prop}
variable {pc : Nat} {ls : Array Slot} {rest st0 : List Value} {a : Array Value} {A0 : Nat → Prop} {H0 : Heap} {free : Addr → Prop}
variable {D : va_G} {T : List (ClassId × FieldType)} {w wc w1 : va_W}
theorem kjI {r : Int32} (hr : va_Run p l e R s m args below meth c H locs 0 0 0 0 (F0 m pc ls st0) rest (va_Qi (fun (x : Int32) (_ : Unit) => r = x) (fun _ t => va_P D vwCl w1 t.heap) (va_A wc H.size) a) (va_A wc H.size)) (hP : va_P D vwCl w H) (hD : va_D A0 w) (hS : va_S A0 H0 H locs) (hA : ∀ q, H0.size ≤ q → A0 q) (isC : List Nat) (hC : isC.map (fun i => w[i]?) = wc.map some) (hw : w1.map Prod.fst = wc.map Prod.fst)
    (kk : ∀ (H1 : Heap) (locs1 : List Loc), va_P D vwCl (kput w isC w1) H1 → va_D A0 (kput w isC w1) → va_S A0 H0 H1 locs1 → W p l e R s m args below meth c H1 locs1 0 0 Q (F0 m (pc + 3) ls (.int r :: rest))) : W p l e R s m args below meth c H locs 0 0 Q (F0 m pc ls st0) := by
  have hF := va_free (wc := wc) hD hS hA isC hC
  refine va_calli hr hS (fun q _ h => hF q h) hF (fun x u t H1 locs1 ht hvm hx hB hz hk hS => ?_)
  subst hx
  rw [ht] at hB
  obtain ⟨g1, g2⟩ := kjoin hP hD isC hC hw hk hB
  exact kk H1 locs1 g1 g2 hS
theorem kjL {r : Int64} (hr : va_Run p l e R s m args below meth c H locs 0 0 0 0 (F0 m pc ls st0) rest (va_Ql (fun (x : Int64) (_ : Unit) => r = x) (fun _ t => va_P D vwCl w1 t.heap) (va_A wc H.size) a) (va_A wc H.size)) (hP : va_P D vwCl w H) (hD : va_D A0 w) (hS : va_S A0 H0 H locs) (hA : ∀ q, H0.size ≤ q → A0 q) (isC : List Nat) (hC : isC.map (fun i => w[i]?) = wc.map some) (hw : w1.map Prod.fst = wc.map Prod.fst)
    (kk : ∀ (H1 : Heap) (locs1 : List Loc), va_P D vwCl (kput w isC w1) H1 → va_D A0 (kput w isC w1) → va_S A0 H0 H1 locs1 → W p l e R s m args below meth c H1 locs1 0 0 Q (F0 m (pc + 3) ls (.long r :: rest))) : W p l e R s m args below meth c H locs 0 0 Q (F0 m pc ls st0) := by
  have hF := va_free (wc := wc) hD hS hA isC hC
  refine va_calll hr hS (fun q _ h => hF q h) hF (fun x u t H1 locs1 ht hvm hx hB hz hk hS => ?_)
  subst hx
  rw [ht] at hB
  obtain ⟨g1, g2⟩ := kjoin hP hD isC hC hw hk hB
  exact kk H1 locs1 g1 g2 hS
theorem kjD {r : UInt64} (hr : va_Run p l e R s m args below meth c H locs 0 0 0 0 (F0 m pc ls st0) rest (va_Qd (fun (x : UInt64) (_ : Unit) => r = x) (fun _ t => va_P D vwCl w1 t.heap) (va_A wc H.size) a) (va_A wc H.size)) (hP : va_P D vwCl w H) (hD : va_D A0 w) (hS : va_S A0 H0 H locs) (hA : ∀ q, H0.size ≤ q → A0 q) (isC : List Nat) (hC : isC.map (fun i => w[i]?) = wc.map some) (hw : w1.map Prod.fst = wc.map Prod.fst)
    (kk : ∀ (H1 : Heap) (locs1 : List Loc), va_P D vwCl (kput w isC w1) H1 → va_D A0 (kput w isC w1) → va_S A0 H0 H1 locs1 → W p l e R s m args below meth c H1 locs1 0 0 Q (F0 m (pc + 3) ls (.double r :: rest))) : W p l e R s m args below meth c H locs 0 0 Q (F0 m pc ls st0) := by
  have hF := va_free (wc := wc) hD hS hA isC hC
  refine va_calld hr hS (fun q _ h => hF q h) hF (fun x u t H1 locs1 ht hvm hx hB hz hk hS => ?_)
  subst hx
  rw [ht] at hB
  obtain ⟨g1, g2⟩ := kjoin hP hD isC hC hw hk hB
  exact kk H1 locs1 g1 g2 hS
theorem kjV (hr : va_Run p l e R s m args below meth c H locs 0 0 0 0 (F0 m pc ls st0) rest (va_Qv (fun (_ : Unit) => True) (fun _ t => va_P D vwCl w1 t.heap) (va_A wc H.size) a) (va_A wc H.size)) (hP : va_P D vwCl w H) (hD : va_D A0 w) (hS : va_S A0 H0 H locs) (hA : ∀ q, H0.size ≤ q → A0 q) (isC : List Nat) (hC : isC.map (fun i => w[i]?) = wc.map some) (hw : w1.map Prod.fst = wc.map Prod.fst)
    (kk : ∀ (H1 : Heap) (locs1 : List Loc), va_P D vwCl (kput w isC w1) H1 → va_D A0 (kput w isC w1) → va_S A0 H0 H1 locs1 → W p l e R s m args below meth c H1 locs1 0 0 Q (F0 m (pc + 3) ls rest)) : W p l e R s m args below meth c H locs 0 0 Q (F0 m pc ls st0) := by
  have hF := va_free (wc := wc) hD hS hA isC hC
  refine va_callv hr hS (fun q _ h => hF q h) hF (fun u t H1 locs1 ht hvm hx hB hz hk hS => ?_)
  rw [ht] at hB
  obtain ⟨g1, g2⟩ := kjoin hP hD isC hC hw hk hB
  exact kk H1 locs1 g1 g2 hS
theorem kjSI {r : Int32} (hr : va_Run p l e R s m args below meth c H locs 0 0 0 0 (F0 m pc ls st0) rest (vp_Si (fun x => r = x) a) (fun _ => False))
    (kk : W p l e R s m args below meth c H locs 0 0 Q (F0 m (pc + 3) ls (.int r :: rest))) : W p l e R s m args below meth c H locs 0 0 Q (F0 m pc ls st0) := by
  intro T hT X
  obtain ⟨v, st₀, t, T', L, h0, X', hL, e1, -, ⟨x, hv, hp, hh⟩, st⟩ := hr T hT X
  cases hv
  subst hp
  obtain ⟨t2, a1, b1⟩ := kk T' (by rw [e1, hh, h0]) (Stand.forget X' (fun q h => (hL q h).elim))
  exact ⟨t2, st t2 a1, b1⟩
theorem kjSL {r : Int64} (hr : va_Run p l e R s m args below meth c H locs 0 0 0 0 (F0 m pc ls st0) rest (vp_Sl (fun x => r = x) a) (fun _ => False))
    (kk : W p l e R s m args below meth c H locs 0 0 Q (F0 m (pc + 3) ls (.long r :: rest))) : W p l e R s m args below meth c H locs 0 0 Q (F0 m pc ls st0) := by
  intro T hT X
  obtain ⟨v, st₀, t, T', L, h0, X', hL, e1, -, ⟨x, hv, hp, hh⟩, st⟩ := hr T hT X
  cases hv
  subst hp
  obtain ⟨t2, a1, b1⟩ := kk T' (by rw [e1, hh, h0]) (Stand.forget X' (fun q h => (hL q h).elim))
  exact ⟨t2, st t2 a1, b1⟩
variable {y : MethodName} {bytes cc : ByteArray} {maxL nL n index : Nat} {ret : Option FieldType} {fr lo : Nat} {Qc : Array Value → State → Outcome → State → Prop} {own C host : String} {b : Addr} {As : List Value} {g : JFrame}
theorem kpre (hN : kN s) (hK : va_K D vwCl T s) (hP : va_P D vwCl w H) (hD : va_D A0 w) (isC : List Nat) (hC : isC.map (fun i => w[i]?) = wc.map some) (hn : va_nd isC = true) {av : List Value} : ∀ U : State, U.heap = H → s.WarmedH U.vm → va_Pc av (kPre D T wc H.size) av.toArray U :=
  fun U hU hW => ⟨rfl, by rw [hU], by rw [hU]; exact kP_sub hP isC hC, va_K.moved hW.alike hK, (hD.sub isC hn hC).weaken (fun _ _ _ _ => trivial), kN.warm hW hN⟩
theorem kV (S : CallFix p m c cc nL s args kW own) (hM : Met l y (kws y bytes maxL ret) (kR fr lo) (va_Pc (.ref b :: As) (kPre D T wc H.size)) Qc 0 0 free) (hG : GoodIn kW (wsV own index C y (kws y bytes maxL ret))) (hd : y.cls = C ∧ y.cls ≠ "java/lang/invoke/MethodHandle" ∧ y.cls ≠ "java/lang/invoke/VarHandle" ∧ (parseMethodDescriptor y.desc).map (fun d => d.parameters.length) = some n) (hR : fr + 1 ≤ R.frames ∧ 8 + (maxL + 11) + lo ≤ R.locals)
    (hN : kN s) (hK : va_K D vwCl T s) (hP : va_P D vwCl w H) (hD : va_D A0 w) (isC : List Nat) (hC : isC.map (fun i => w[i]?) = wc.map some) (hn : va_nd isC = true) {ci : Nat} {q : vw_C} {fs : List Value} (hc : vwCl[ci]? = some q) (hq : q.1 = C) (he : wc[0]? = some (b, .inr (ci, fs)))
    (hg : g.method = m) (hna : As.length = n) (hsize : g.locals.size = nL) (hstack : g.stack = As.reverse ++ .ref b :: rest) (hW : 2 * g.monitorRoom + (rest.map fun v => v.category).sum ≤ 8) (hdg : decode cc g.pc = .ok (.invokevirtual index, 3)) :
    va_Run p l e R s m args below meth c H locs 0 0 0 0 g rest (Qc (Value.ref b :: As).toArray) free := by
  subst hq
  exact va_runV S hM (cwV n S.2.2.2.2 hG rfl rfl rfl hd hR) ⟨kPre_blind, va_recv hK (kP_sub hP isC hC) hc he, kpre hN hK hP hD isC hC hn⟩ hg hna hsize hstack hW hdg ⟨Nat.zero_le _, Nat.zero_le _⟩
theorem kVN (S : CallFix p m c cc nL s args kW own) (hM : Met l y (kws y bytes maxL ret) (kR fr lo) (va_Pc (.ref b :: As) (kPre D T wc H.size)) Qc 0 0 free) (hG : GoodIn kW (kws y bytes maxL ret)) (h1 : va_Nw (.methodLinkNest own index y host) s) (h2 : Cond.instanceMethod y ∈ kW) (h3 : Cond.selects C y y ∈ kW) (h4 : Cond.initialized y.cls ∈ kW) (hd : y.cls = C ∧ y.cls ≠ "java/lang/invoke/MethodHandle" ∧ y.cls ≠ "java/lang/invoke/VarHandle" ∧ (parseMethodDescriptor y.desc).map (fun d => d.parameters.length) = some n) (hR : fr + 1 ≤ R.frames ∧ 8 + (maxL + 11) + lo ≤ R.locals)
    (hN : kN s) (hK : va_K D vwCl T s) (hP : va_P D vwCl w H) (hD : va_D A0 w) (isC : List Nat) (hC : isC.map (fun i => w[i]?) = wc.map some) (hn : va_nd isC = true) {ci : Nat} {q : vw_C} {fs : List Value} (hc : vwCl[ci]? = some q) (hq : q.1 = C) (he : wc[0]? = some (b, .inr (ci, fs)))
    (hg : g.method = m) (hna : As.length = n) (hsize : g.locals.size = nL) (hstack : g.stack = As.reverse ++ .ref b :: rest) (hW : 2 * g.monitorRoom + (rest.map fun v => v.category).sum ≤ 8) (hdg : decode cc g.pc = .ok (.invokevirtual index, 3)) :
    va_Run p l e R s m args below meth c H locs 0 0 0 0 g rest (Qc (Value.ref b :: As).toArray) free := by
  subst hq
  exact va_runVN S hM ⟨va_cnB n S.2.2.2.2 hG rfl rfl rfl h1 (S.2.2.2.2 _ h4) hd.2 hR, S.2.2.2.2 _ h2, S.2.2.2.2 _ h3⟩ ⟨kPre_blind, va_recv hK (kP_sub hP isC hC) hc he, kpre hN hK hP hD isC hC hn⟩ hg hna hsize hstack hW hdg ⟨Nat.zero_le _, Nat.zero_le _⟩
theorem kS0 (S : CallFix p m c cc nL s args kW own) (hM : Met l y (kws y bytes maxL ret) (kR fr lo) (va_Pc As (fun _ => True)) Qc 0 0 free) (hG : GoodIn kW (va_wsS own index y (kws y bytes maxL ret))) (hd : y.cls ≠ "java/lang/invoke/MethodHandle" ∧ y.cls ≠ "java/lang/invoke/VarHandle" ∧ (parseMethodDescriptor y.desc).map (fun d => d.parameters.length) = some n) (hR : fr + 1 ≤ R.frames ∧ 8 + (maxL + 11) + lo ≤ R.locals)
    (hg : g.method = m) (hna : As.length = n) (hsize : g.locals.size = nL) (hstack : g.stack = As.reverse ++ rest) (hW : 2 * g.monitorRoom + (rest.map fun v => v.category).sum ≤ 8) (hdg : decode cc g.pc = .ok (.invokestatic index, 3)) :
    va_Run p l e R s m args below meth c H locs 0 0 0 0 g rest (Qc As.toArray) free :=
  va_runS S hM (va_cwS n S.2.2.2.2 hG rfl rfl rfl hd hR) ⟨fun _ _ _ _ q => ⟨q.1, trivial⟩, fun _ _ _ => ⟨rfl, trivial⟩⟩ hg hna hsize hstack hW hdg ⟨Nat.zero_le _, Nat.zero_le _⟩
theorem kSN0 (S : CallFix p m c cc nL s args kW own) (hM : Met l y (kws y bytes maxL ret) (kR fr lo) (va_Pc As (fun _ => True)) Qc 0 0 free) (hG : GoodIn kW (kws y bytes maxL ret)) (h1 : va_Nw (.methodLinkNest own index y host) s) (h2 : Cond.static y ∈ kW) (h4 : Cond.initialized y.cls ∈ kW) (hd : y.cls ≠ "java/lang/invoke/MethodHandle" ∧ y.cls ≠ "java/lang/invoke/VarHandle" ∧ (parseMethodDescriptor y.desc).map (fun d => d.parameters.length) = some n) (hR : fr + 1 ≤ R.frames ∧ 8 + (maxL + 11) + lo ≤ R.locals)
    (hg : g.method = m) (hna : As.length = n) (hsize : g.locals.size = nL) (hstack : g.stack = As.reverse ++ rest) (hW : 2 * g.monitorRoom + (rest.map fun v => v.category).sum ≤ 8) (hdg : decode cc g.pc = .ok (.invokestatic index, 3)) :
    va_Run p l e R s m args below meth c H locs 0 0 0 0 g rest (Qc As.toArray) free :=
  va_runSN S hM ⟨va_cnB n S.2.2.2.2 hG rfl rfl rfl h1 (S.2.2.2.2 _ h4) hd hR, S.2.2.2.2 _ h2, trivial⟩ ⟨fun _ _ _ _ q => ⟨q.1, trivial⟩, fun _ _ _ => ⟨rfl, trivial⟩⟩ hg hna hsize hstack hW hdg ⟨Nat.zero_le _, Nat.zero_le _⟩
end KC
/-- what a method's walk begins with -/
def KC (p : Program) (s : State) (m : MethodId) (args : Array Value) (meth : Method) (c : Code) (cc : ByteArray) (nL : Nat) (own : String) : Prop :=
  p.tables.exec = Jvm.exec ∧ c.code = cc ∧ c.maxLocals = nL ∧ s.vm.findClass own = some m.cls ∧ ∀ w ∈ kW, w.before args s = true
section KO
variable {l : Launch} {y : MethodName} {fr lo : Nat} {D : va_G} {T : List (ClassId × FieldType)} {av : List Value} {w w' : va_W} {cc : ByteArray} {maxL : Nat}
theorem MI.of {ty : FieldType} {r : Int32} (hy : plainName y.cls = true) (hn : (lg_sl av).length ≤ maxL)
    (body : ∀ (p : Program) (e : Env) (s : State) (m : MethodId) (args : Array Value) (below : List Frame) (meth : Method) (c : Code) (A : Nat → Prop) (Q : State → Prop) (ls : Array Slot), KC p s m args meth c cc maxL y.cls → kN s → va_K D vwCl T s → va_P D vwCl w s.heap → va_D A w → (∀ q, s.heap.size ≤ q → A q) → lv_has ls maxL (lv_args 0 av) →
      (∀ (H : Heap) (locs : List Loc) (ls : Array Slot) (pc : Nat), va_P D vwCl w' H → va_S A s.heap H locs → decode cc pc = .ok (.ireturn, 1) → narrow ty (.int r) = .int r → W p l e (kR fr lo) s m args below meth c H locs 0 0 Q (F0 m pc ls [.int r])) →
      W p l e (kR fr lo) s m args below meth c s.heap [] 0 0 Q (F0 m 0 ls [])) : MI l y (kws y cc maxL (some ty)) (kR fr lo) D T av w w' r := by
  intro sz
  refine Met.ofW (cc := cc) (maxL := maxL) (ret := some ty) hy rfl ?_
  intro p e s m args below meth c s₁ B hml hv
  obtain ⟨rfl, hsz, hP, hK, hD0, hN⟩ := hv
  have hx := B.exec
  have hb := B.bytes
  have hr := B.returns
  have hts := atoms_spec (ws := kws y cc maxL (some ty)) B.pre
  have hown : s.vm.findClass y.cls = some m.cls := findClass_of_methodNamed B.named
  have hlocks := B.notSynchronized
  subst hsz
  have hD := hD0.self (sz := s.heap.size)
  have hl := lv_entry av (n := maxL) hn
  rw [lg_entry_eq]
  generalize (lg_sl av ++ List.replicate (maxL - (lg_sl av).length) Slot.unset).toArray = ls at hl ⊢
  exact body p e s m _ below meth c (va_A w s.heap.size) _ ls ⟨hx, hb, hml, hown, fun w h => hts w (List.mem_cons_of_mem _ h)⟩ hN hK hP hD (fun q h => Or.inr h) hl
    (fun H locs ls pc hP hS hdg hnr => W.zret hx hb hr hnr (fun t ht hW => ⟨⟨r, (), rfl, rfl, by show va_P D vwCl w' t.heap; rw [ht]; exact hP⟩, hS.F ht⟩) hS.2.2 hdg)
theorem ML.of {r : Int64} (hy : plainName y.cls = true) (hn : (lg_sl av).length ≤ maxL)
    (body : ∀ (p : Program) (e : Env) (s : State) (m : MethodId) (args : Array Value) (below : List Frame) (meth : Method) (c : Code) (A : Nat → Prop) (Q : State → Prop) (ls : Array Slot), KC p s m args meth c cc maxL y.cls → kN s → va_K D vwCl T s → va_P D vwCl w s.heap → va_D A w → (∀ q, s.heap.size ≤ q → A q) → lv_has ls maxL (lv_args 0 av) →
      (∀ (H : Heap) (locs : List Loc) (ls : Array Slot) (pc : Nat), va_P D vwCl w' H → va_S A s.heap H locs → decode cc pc = .ok (.lreturn, 1) → W p l e (kR fr lo) s m args below meth c H locs 0 0 Q (F0 m pc ls [.long r])) →
      W p l e (kR fr lo) s m args below meth c s.heap [] 0 0 Q (F0 m 0 ls [])) : ML l y (kws y cc maxL (some .long)) (kR fr lo) D T av w w' r := by
  intro sz
  refine Met.ofW (cc := cc) (maxL := maxL) (ret := some .long) hy rfl ?_
  intro p e s m args below meth c s₁ B hml hv
  obtain ⟨rfl, hsz, hP, hK, hD0, hN⟩ := hv
  have hx := B.exec
  have hb := B.bytes
  have hr := B.returns
  have hts := atoms_spec (ws := kws y cc maxL (some .long)) B.pre
  have hown : s.vm.findClass y.cls = some m.cls := findClass_of_methodNamed B.named
  have hlocks := B.notSynchronized
  subst hsz
  have hD := hD0.self (sz := s.heap.size)
  have hl := lv_entry av (n := maxL) hn
  rw [lg_entry_eq]
  generalize (lg_sl av ++ List.replicate (maxL - (lg_sl av).length) Slot.unset).toArray = ls at hl ⊢
  exact body p e s m _ below meth c (va_A w s.heap.size) _ ls ⟨hx, hb, hml, hown, fun w h => hts w (List.mem_cons_of_mem _ h)⟩ hN hK hP hD (fun q h => Or.inr h) hl
    (fun H locs ls pc hP hS hdg => W.lret hx hb hr (fun t ht hW => ⟨⟨r, (), rfl, rfl, by show va_P D vwCl w' t.heap; rw [ht]; exact hP⟩, hS.F ht⟩) hS.2.2 hdg)
theorem MD.of {r : UInt64} (hy : plainName y.cls = true) (hn : (lg_sl av).length ≤ maxL)
    (body : ∀ (p : Program) (e : Env) (s : State) (m : MethodId) (args : Array Value) (below : List Frame) (meth : Method) (c : Code) (A : Nat → Prop) (Q : State → Prop) (ls : Array Slot), KC p s m args meth c cc maxL y.cls → kN s → va_K D vwCl T s → va_P D vwCl w s.heap → va_D A w → (∀ q, s.heap.size ≤ q → A q) → lv_has ls maxL (lv_args 0 av) →
      (∀ (H : Heap) (locs : List Loc) (ls : Array Slot) (pc : Nat), va_P D vwCl w' H → va_S A s.heap H locs → decode cc pc = .ok (.dreturn, 1) → W p l e (kR fr lo) s m args below meth c H locs 0 0 Q (F0 m pc ls [.double r])) →
      W p l e (kR fr lo) s m args below meth c s.heap [] 0 0 Q (F0 m 0 ls [])) : MD l y (kws y cc maxL (some .double)) (kR fr lo) D T av w w' r := by
  intro sz
  refine Met.ofW (cc := cc) (maxL := maxL) (ret := some .double) hy rfl ?_
  intro p e s m args below meth c s₁ B hml hv
  obtain ⟨rfl, hsz, hP, hK, hD0, hN⟩ := hv
  have hx := B.exec
  have hb := B.bytes
  have hr := B.returns
  have hts := atoms_spec (ws := kws y cc maxL (some .double)) B.pre
  have hown : s.vm.findClass y.cls = some m.cls := findClass_of_methodNamed B.named
  have hlocks := B.notSynchronized
  subst hsz
  have hD := hD0.self (sz := s.heap.size)
  have hl := lv_entry av (n := maxL) hn
  rw [lg_entry_eq]
  generalize (lg_sl av ++ List.replicate (maxL - (lg_sl av).length) Slot.unset).toArray = ls at hl ⊢
  exact body p e s m _ below meth c (va_A w s.heap.size) _ ls ⟨hx, hb, hml, hown, fun w h => hts w (List.mem_cons_of_mem _ h)⟩ hN hK hP hD (fun q h => Or.inr h) hl
    (fun H locs ls pc hP hS hdg => W.dret hx hb hr (fun t ht hW => ⟨⟨r, (), rfl, rfl, by show va_P D vwCl w' t.heap; rw [ht]; exact hP⟩, hS.F ht⟩) hS.2.2 hdg)
theorem MV.of (hy : plainName y.cls = true) (hn : (lg_sl av).length ≤ maxL)
    (body : ∀ (p : Program) (e : Env) (s : State) (m : MethodId) (args : Array Value) (below : List Frame) (meth : Method) (c : Code) (A : Nat → Prop) (Q : State → Prop) (ls : Array Slot), KC p s m args meth c cc maxL y.cls → kN s → va_K D vwCl T s → va_P D vwCl w s.heap → va_D A w → (∀ q, s.heap.size ≤ q → A q) → lv_has ls maxL (lv_args 0 av) →
      (∀ (H : Heap) (locs : List Loc) (ls : Array Slot) (pc : Nat), va_P D vwCl w' H → va_S A s.heap H locs → decode cc pc = .ok (.return_, 1) → W p l e (kR fr lo) s m args below meth c H locs 0 0 Q (F0 m pc ls [])) →
      W p l e (kR fr lo) s m args below meth c s.heap [] 0 0 Q (F0 m 0 ls [])) : MV l y (kws y cc maxL none) (kR fr lo) D T av w w' := by
  intro sz
  refine Met.ofW (cc := cc) (maxL := maxL) (ret := none) hy rfl ?_
  intro p e s m args below meth c s₁ B hml hv
  obtain ⟨rfl, hsz, hP, hK, hD0, hN⟩ := hv
  have hx := B.exec
  have hb := B.bytes
  have hr := B.returns
  have hts := atoms_spec (ws := kws y cc maxL none) B.pre
  have hown : s.vm.findClass y.cls = some m.cls := findClass_of_methodNamed B.named
  have hlocks := B.notSynchronized
  subst hsz
  have hD := hD0.self (sz := s.heap.size)
  have hl := lv_entry av (n := maxL) hn
  rw [lg_entry_eq]
  generalize (lg_sl av ++ List.replicate (maxL - (lg_sl av).length) Slot.unset).toArray = ls at hl ⊢
  exact body p e s m _ below meth c (va_A w s.heap.size) _ ls ⟨hx, hb, hml, hown, fun w h => hts w (List.mem_cons_of_mem _ h)⟩ hN hK hP hD (fun q h => Or.inr h) hl
    (fun H locs ls pc hP hS hdg => W.vret hx hb hr (fun t ht hW => ⟨⟨(), rfl, trivial, by show va_P D vwCl w' t.heap; rw [ht]; exact hP⟩, hS.F ht⟩) hS.2.2 hdg)
theorem SI.of {ty : FieldType} {r : Int32} (hy : plainName y.cls = true) (hn : (lg_sl av).length ≤ maxL)
    (body : ∀ (p : Program) (e : Env) (s : State) (m : MethodId) (args : Array Value) (below : List Frame) (meth : Method) (c : Code) (Q : State → Prop) (ls : Array Slot), KC p s m args meth c cc maxL y.cls → lv_has ls maxL (lv_args 0 av) →
      (∀ (ls : Array Slot) (pc : Nat), decode cc pc = .ok (.ireturn, 1) → narrow ty (.int r) = .int r → W p l e (kR fr lo) s m args below meth c s.heap [] 0 0 Q (F0 m pc ls [.int r])) →
      W p l e (kR fr lo) s m args below meth c s.heap [] 0 0 Q (F0 m 0 ls [])) : SI l y (kws y cc maxL (some ty)) (kR fr lo) av r := by
  refine Met.ofW (cc := cc) (maxL := maxL) (ret := some ty) hy rfl ?_
  intro p e s m args below meth c s₁ B hml hv
  obtain ⟨rfl, -⟩ := hv
  have hx := B.exec
  have hb := B.bytes
  have hr := B.returns
  have hts := atoms_spec (ws := kws y cc maxL (some ty)) B.pre
  have hown : s.vm.findClass y.cls = some m.cls := findClass_of_methodNamed B.named
  have hlocks := B.notSynchronized
  have hl := lv_entry av (n := maxL) hn
  rw [lg_entry_eq]
  generalize (lg_sl av ++ List.replicate (maxL - (lg_sl av).length) Slot.unset).toArray = ls at hl ⊢
  exact body p e s m _ below meth c _ ls ⟨hx, hb, hml, hown, fun w h => hts w (List.mem_cons_of_mem _ h)⟩ hl
    (fun ls pc hdg hnr => W.zret hx hb hr hnr (fun t ht hW => ⟨r, rfl, rfl, ht⟩) (fun _ h => absurd h List.not_mem_nil) hdg)
theorem SL.of {r : Int64} (hy : plainName y.cls = true) (hn : (lg_sl av).length ≤ maxL)
    (body : ∀ (p : Program) (e : Env) (s : State) (m : MethodId) (args : Array Value) (below : List Frame) (meth : Method) (c : Code) (Q : State → Prop) (ls : Array Slot), KC p s m args meth c cc maxL y.cls → lv_has ls maxL (lv_args 0 av) →
      (∀ (ls : Array Slot) (pc : Nat), decode cc pc = .ok (.lreturn, 1) → W p l e (kR fr lo) s m args below meth c s.heap [] 0 0 Q (F0 m pc ls [.long r])) →
      W p l e (kR fr lo) s m args below meth c s.heap [] 0 0 Q (F0 m 0 ls [])) : SL l y (kws y cc maxL (some .long)) (kR fr lo) av r := by
  refine Met.ofW (cc := cc) (maxL := maxL) (ret := some .long) hy rfl ?_
  intro p e s m args below meth c s₁ B hml hv
  obtain ⟨rfl, -⟩ := hv
  have hx := B.exec
  have hb := B.bytes
  have hr := B.returns
  have hts := atoms_spec (ws := kws y cc maxL (some .long)) B.pre
  have hown : s.vm.findClass y.cls = some m.cls := findClass_of_methodNamed B.named
  have hlocks := B.notSynchronized
  have hl := lv_entry av (n := maxL) hn
  rw [lg_entry_eq]
  generalize (lg_sl av ++ List.replicate (maxL - (lg_sl av).length) Slot.unset).toArray = ls at hl ⊢
  exact body p e s m _ below meth c _ ls ⟨hx, hb, hml, hown, fun w h => hts w (List.mem_cons_of_mem _ h)⟩ hl
    (fun ls pc hdg => W.lret hx hb hr (fun t ht hW => ⟨r, rfl, rfl, ht⟩) (fun _ h => absurd h List.not_mem_nil) hdg)
end KO
/-! functions: names, guards, calls -/
def nm {α β : Type} (x : α) (k : α → β) : β := k x
theorem nm_at {α β : Type} {x v : α} {k : α → β} {r : β} (ev : v = x) (h : nm x k = r) : k v = r := by subst ev; exact h
theorem ite_t {β : Type} {c : Prop} [Decidable c] {a b r : β} (hc : c) (h : (if c then a else b) = r) : a = r := by rw [if_pos hc] at h; exact h
theorem ite_f {β : Type} {c : Prop} [Decidable c] {a b r : β} (hc : ¬ c) (h : (if c then a else b) = r) : b = r := by rw [if_neg hc] at h; exact h
def gi {β : Type} (i : Int32) (n : Nat) (x : Option β) : Option β := if i < 0 ∨ n ≤ i.toNatClampNeg then none else x
theorem gi_at {β : Type} {i : Int32} {n : Nat} {x : Option β} {r : β} (h : gi i n x = some r) : vp_in i n ∧ x = some r := by
  unfold gi at h
  split at h
  · cases h
  · rename_i hc; exact ⟨hc, h⟩
def gn {β : Type} (y : Int32) (x : Option β) : Option β := if y = 0 then none else x
theorem gn_at {β : Type} {y : Int32} {x : Option β} {r : β} (h : gn y x = some r) : ¬ y = 0 ∧ x = some r := by
  unfold gn at h
  split at h
  · cases h
  · rename_i hc; exact ⟨hc, h⟩
def gnl {β : Type} (y : Int64) (x : Option β) : Option β := if y = 0 then none else x
theorem gnl_at {β : Type} {y : Int64} {x : Option β} {r : β} (h : gnl y x = some r) : ¬ y = 0 ∧ x = some r := by
  unfold gnl at h
  split at h
  · cases h
  · rename_i hc; exact ⟨hc, h⟩
def gz {β : Type} (v : Int32) (x : Option β) : Option β := if v = 0 ∨ v = 1 then x else none
theorem gz_at {β : Type} {v : Int32} {x : Option β} {r : β} (h : gz v x = some r) : narrow .boolean (.int v) = .int v ∧ x = some r := by
  unfold gz at h
  split at h
  · rename_i hc
    exact ⟨by rcases hc with rfl | rfl <;> rfl, h⟩
  · cases h
def g64 {β : Type} (v : UInt64) (x : Option β) : Option β := if v &&& 0x7fffffffffffffff ≤ 0x7ff0000000000000 then x else none
theorem g64_at {β : Type} {v : UInt64} {x : Option β} {r : β} (h : g64 v x = some r) : vf_n64 v ∧ x = some r := by
  unfold g64 at h
  split at h
  · rename_i hc; exact ⟨hc, h⟩
  · cases h
def g32 {β : Type} (v : UInt32) (x : Option β) : Option β := if v &&& 0x7fffffff ≤ 0x7f800000 then x else none
theorem g32_at {β : Type} {v : UInt32} {x : Option β} {r : β} (h : g32 v x = some r) : vf_n32 v ∧ x = some r := by
  unfold g32 at h
  split at h
  · rename_i hc; exact ⟨hc, h⟩
  · cases h
def bd1 {a ρ : Type} (o : Option a) (k : a → Option ρ) : Option ρ := o.bind k
theorem bd1_at {a ρ : Type} {o : Option a} {k : a → Option ρ} {r : ρ} (h : bd1 o k = some r) : ∃ x1, o = some x1 ∧ k x1 = some r := by
  cases o with
  | none => cases h
  | some x => exact ⟨x, rfl, h⟩
def bd2 {a b ρ : Type} (o : Option (a × b)) (k : a → b → Option ρ) : Option ρ := o.bind fun x => k x.1 x.2
theorem bd2_at {a b ρ : Type} {o : Option (a × b)} {k : a → b → Option ρ} {r : ρ} (h : bd2 o k = some r) : ∃ x1 x2, o = some (x1, x2) ∧ k x1 x2 = some r := by
  cases o with
  | none => cases h
  | some x => exact ⟨_, _, rfl, h⟩
def bd3 {a b c ρ : Type} (o : Option (a × b × c)) (k : a → b → c → Option ρ) : Option ρ := o.bind fun x => k x.1 x.2.1 x.2.2
theorem bd3_at {a b c ρ : Type} {o : Option (a × b × c)} {k : a → b → c → Option ρ} {r : ρ} (h : bd3 o k = some r) : ∃ x1 x2 x3, o = some (x1, x2, x3) ∧ k x1 x2 x3 = some r := by
  cases o with
  | none => cases h
  | some x => exact ⟨_, _, _, rfl, h⟩
def bd4 {a b c d ρ : Type} (o : Option (a × b × c × d)) (k : a → b → c → d → Option ρ) : Option ρ := o.bind fun x => k x.1 x.2.1 x.2.2.1 x.2.2.2
theorem bd4_at {a b c d ρ : Type} {o : Option (a × b × c × d)} {k : a → b → c → d → Option ρ} {r : ρ} (h : bd4 o k = some r) : ∃ x1 x2 x3 x4, o = some (x1, x2, x3, x4) ∧ k x1 x2 x3 x4 = some r := by
  cases o with
  | none => cases h
  | some x => exact ⟨_, _, _, _, rfl, h⟩
def bd5 {a b c d e ρ : Type} (o : Option (a × b × c × d × e)) (k : a → b → c → d → e → Option ρ) : Option ρ := o.bind fun x => k x.1 x.2.1 x.2.2.1 x.2.2.2.1 x.2.2.2.2
theorem bd5_at {a b c d e ρ : Type} {o : Option (a × b × c × d × e)} {k : a → b → c → d → e → Option ρ} {r : ρ} (h : bd5 o k = some r) : ∃ x1 x2 x3 x4 x5, o = some (x1, x2, x3, x4, x5) ∧ k x1 x2 x3 x4 x5 = some r := by
  cases o with
  | none => cases h
  | some x => exact ⟨_, _, _, _, _, rfl, h⟩
def bd6 {a b c d e f ρ : Type} (o : Option (a × b × c × d × e × f)) (k : a → b → c → d → e → f → Option ρ) : Option ρ := o.bind fun x => k x.1 x.2.1 x.2.2.1 x.2.2.2.1 x.2.2.2.2.1 x.2.2.2.2.2
theorem bd6_at {a b c d e f ρ : Type} {o : Option (a × b × c × d × e × f)} {k : a → b → c → d → e → f → Option ρ} {r : ρ} (h : bd6 o k = some r) : ∃ x1 x2 x3 x4 x5 x6, o = some (x1, x2, x3, x4, x5, x6) ∧ k x1 x2 x3 x4 x5 x6 = some r := by
  cases o with
  | none => cases h
  | some x => exact ⟨_, _, _, _, _, _, rfl, h⟩
theorem pj1 {a1 : Type} {x1 y1 : a1} (h : some x1 = some y1) : x1 = y1 := by cases h; exact rfl
theorem pj2 {a1 a2 : Type} {x1 y1 : a1} {x2 y2 : a2} (h : some (x1, x2) = some (y1, y2)) : x1 = y1 ∧ x2 = y2 := by cases h; exact ⟨rfl, rfl⟩
theorem pj3 {a1 a2 a3 : Type} {x1 y1 : a1} {x2 y2 : a2} {x3 y3 : a3} (h : some (x1, x2, x3) = some (y1, y2, y3)) : x1 = y1 ∧ x2 = y2 ∧ x3 = y3 := by cases h; exact ⟨rfl, rfl, rfl⟩
theorem pj4 {a1 a2 a3 a4 : Type} {x1 y1 : a1} {x2 y2 : a2} {x3 y3 : a3} {x4 y4 : a4} (h : some (x1, x2, x3, x4) = some (y1, y2, y3, y4)) : x1 = y1 ∧ x2 = y2 ∧ x3 = y3 ∧ x4 = y4 := by cases h; exact ⟨rfl, rfl, rfl, rfl⟩
theorem pj5 {a1 a2 a3 a4 a5 : Type} {x1 y1 : a1} {x2 y2 : a2} {x3 y3 : a3} {x4 y4 : a4} {x5 y5 : a5} (h : some (x1, x2, x3, x4, x5) = some (y1, y2, y3, y4, y5)) : x1 = y1 ∧ x2 = y2 ∧ x3 = y3 ∧ x4 = y4 ∧ x5 = y5 := by cases h; exact ⟨rfl, rfl, rfl, rfl, rfl⟩
theorem pj6 {a1 a2 a3 a4 a5 a6 : Type} {x1 y1 : a1} {x2 y2 : a2} {x3 y3 : a3} {x4 y4 : a4} {x5 y5 : a5} {x6 y6 : a6} (h : some (x1, x2, x3, x4, x5, x6) = some (y1, y2, y3, y4, y5, y6)) : x1 = y1 ∧ x2 = y2 ∧ x3 = y3 ∧ x4 = y4 ∧ x5 = y5 ∧ x6 = y6 := by cases h; exact ⟨rfl, rfl, rfl, rfl, rfl, rfl⟩
theorem pj7 {a1 a2 a3 a4 a5 a6 a7 : Type} {x1 y1 : a1} {x2 y2 : a2} {x3 y3 : a3} {x4 y4 : a4} {x5 y5 : a5} {x6 y6 : a6} {x7 y7 : a7} (h : some (x1, x2, x3, x4, x5, x6, x7) = some (y1, y2, y3, y4, y5, y6, y7)) : x1 = y1 ∧ x2 = y2 ∧ x3 = y3 ∧ x4 = y4 ∧ x5 = y5 ∧ x6 = y6 ∧ x7 = y7 := by cases h; exact ⟨rfl, rfl, rfl, rfl, rfl, rfl, rfl⟩
def bd7 {a1 a2 a3 a4 a5 a6 a7 ρ : Type} (o : Option (a1 × a2 × a3 × a4 × a5 × a6 × a7)) (k : a1 → a2 → a3 → a4 → a5 → a6 → a7 → Option ρ) : Option ρ := o.bind fun x => k x.1 x.2.1 x.2.2.1 x.2.2.2.1 x.2.2.2.2.1 x.2.2.2.2.2.1 x.2.2.2.2.2.2
theorem bd7_at {a1 a2 a3 a4 a5 a6 a7 ρ : Type} {o : Option (a1 × a2 × a3 × a4 × a5 × a6 × a7)} {k : a1 → a2 → a3 → a4 → a5 → a6 → a7 → Option ρ} {r : ρ} (h : bd7 o k = some r) : ∃ x1 x2 x3 x4 x5 x6 x7, o = some (x1, x2, x3, x4, x5, x6, x7) ∧ k x1 x2 x3 x4 x5 x6 x7 = some r := by
  cases o with
  | none => cases h
  | some x => exact ⟨_, _, _, _, _, _, _, rfl, h⟩
theorem pj8 {a1 a2 a3 a4 a5 a6 a7 a8 : Type} {x1 y1 : a1} {x2 y2 : a2} {x3 y3 : a3} {x4 y4 : a4} {x5 y5 : a5} {x6 y6 : a6} {x7 y7 : a7} {x8 y8 : a8} (h : some (x1, x2, x3, x4, x5, x6, x7, x8) = some (y1, y2, y3, y4, y5, y6, y7, y8)) : x1 = y1 ∧ x2 = y2 ∧ x3 = y3 ∧ x4 = y4 ∧ x5 = y5 ∧ x6 = y6 ∧ x7 = y7 ∧ x8 = y8 := by cases h; exact ⟨rfl, rfl, rfl, rfl, rfl, rfl, rfl, rfl⟩
def bd8 {a1 a2 a3 a4 a5 a6 a7 a8 ρ : Type} (o : Option (a1 × a2 × a3 × a4 × a5 × a6 × a7 × a8)) (k : a1 → a2 → a3 → a4 → a5 → a6 → a7 → a8 → Option ρ) : Option ρ := o.bind fun x => k x.1 x.2.1 x.2.2.1 x.2.2.2.1 x.2.2.2.2.1 x.2.2.2.2.2.1 x.2.2.2.2.2.2.1 x.2.2.2.2.2.2.2
theorem bd8_at {a1 a2 a3 a4 a5 a6 a7 a8 ρ : Type} {o : Option (a1 × a2 × a3 × a4 × a5 × a6 × a7 × a8)} {k : a1 → a2 → a3 → a4 → a5 → a6 → a7 → a8 → Option ρ} {r : ρ} (h : bd8 o k = some r) : ∃ x1 x2 x3 x4 x5 x6 x7 x8, o = some (x1, x2, x3, x4, x5, x6, x7, x8) ∧ k x1 x2 x3 x4 x5 x6 x7 x8 = some r := by
  cases o with
  | none => cases h
  | some x => exact ⟨_, _, _, _, _, _, _, _, rfl, h⟩
theorem pj9 {a1 a2 a3 a4 a5 a6 a7 a8 a9 : Type} {x1 y1 : a1} {x2 y2 : a2} {x3 y3 : a3} {x4 y4 : a4} {x5 y5 : a5} {x6 y6 : a6} {x7 y7 : a7} {x8 y8 : a8} {x9 y9 : a9} (h : some (x1, x2, x3, x4, x5, x6, x7, x8, x9) = some (y1, y2, y3, y4, y5, y6, y7, y8, y9)) : x1 = y1 ∧ x2 = y2 ∧ x3 = y3 ∧ x4 = y4 ∧ x5 = y5 ∧ x6 = y6 ∧ x7 = y7 ∧ x8 = y8 ∧ x9 = y9 := by cases h; exact ⟨rfl, rfl, rfl, rfl, rfl, rfl, rfl, rfl, rfl⟩
def bd9 {a1 a2 a3 a4 a5 a6 a7 a8 a9 ρ : Type} (o : Option (a1 × a2 × a3 × a4 × a5 × a6 × a7 × a8 × a9)) (k : a1 → a2 → a3 → a4 → a5 → a6 → a7 → a8 → a9 → Option ρ) : Option ρ := o.bind fun x => k x.1 x.2.1 x.2.2.1 x.2.2.2.1 x.2.2.2.2.1 x.2.2.2.2.2.1 x.2.2.2.2.2.2.1 x.2.2.2.2.2.2.2.1 x.2.2.2.2.2.2.2.2
theorem bd9_at {a1 a2 a3 a4 a5 a6 a7 a8 a9 ρ : Type} {o : Option (a1 × a2 × a3 × a4 × a5 × a6 × a7 × a8 × a9)} {k : a1 → a2 → a3 → a4 → a5 → a6 → a7 → a8 → a9 → Option ρ} {r : ρ} (h : bd9 o k = some r) : ∃ x1 x2 x3 x4 x5 x6 x7 x8 x9, o = some (x1, x2, x3, x4, x5, x6, x7, x8, x9) ∧ k x1 x2 x3 x4 x5 x6 x7 x8 x9 = some r := by
  cases o with
  | none => cases h
  | some x => exact ⟨_, _, _, _, _, _, _, _, _, rfl, h⟩
theorem pj10 {a1 a2 a3 a4 a5 a6 a7 a8 a9 a10 : Type} {x1 y1 : a1} {x2 y2 : a2} {x3 y3 : a3} {x4 y4 : a4} {x5 y5 : a5} {x6 y6 : a6} {x7 y7 : a7} {x8 y8 : a8} {x9 y9 : a9} {x10 y10 : a10} (h : some (x1, x2, x3, x4, x5, x6, x7, x8, x9, x10) = some (y1, y2, y3, y4, y5, y6, y7, y8, y9, y10)) : x1 = y1 ∧ x2 = y2 ∧ x3 = y3 ∧ x4 = y4 ∧ x5 = y5 ∧ x6 = y6 ∧ x7 = y7 ∧ x8 = y8 ∧ x9 = y9 ∧ x10 = y10 := by cases h; exact ⟨rfl, rfl, rfl, rfl, rfl, rfl, rfl, rfl, rfl, rfl⟩
def bd10 {a1 a2 a3 a4 a5 a6 a7 a8 a9 a10 ρ : Type} (o : Option (a1 × a2 × a3 × a4 × a5 × a6 × a7 × a8 × a9 × a10)) (k : a1 → a2 → a3 → a4 → a5 → a6 → a7 → a8 → a9 → a10 → Option ρ) : Option ρ := o.bind fun x => k x.1 x.2.1 x.2.2.1 x.2.2.2.1 x.2.2.2.2.1 x.2.2.2.2.2.1 x.2.2.2.2.2.2.1 x.2.2.2.2.2.2.2.1 x.2.2.2.2.2.2.2.2.1 x.2.2.2.2.2.2.2.2.2
theorem bd10_at {a1 a2 a3 a4 a5 a6 a7 a8 a9 a10 ρ : Type} {o : Option (a1 × a2 × a3 × a4 × a5 × a6 × a7 × a8 × a9 × a10)} {k : a1 → a2 → a3 → a4 → a5 → a6 → a7 → a8 → a9 → a10 → Option ρ} {r : ρ} (h : bd10 o k = some r) : ∃ x1 x2 x3 x4 x5 x6 x7 x8 x9 x10, o = some (x1, x2, x3, x4, x5, x6, x7, x8, x9, x10) ∧ k x1 x2 x3 x4 x5 x6 x7 x8 x9 x10 = some r := by
  cases o with
  | none => cases h
  | some x => exact ⟨_, _, _, _, _, _, _, _, _, _, rfl, h⟩
theorem pj11 {a1 a2 a3 a4 a5 a6 a7 a8 a9 a10 a11 : Type} {x1 y1 : a1} {x2 y2 : a2} {x3 y3 : a3} {x4 y4 : a4} {x5 y5 : a5} {x6 y6 : a6} {x7 y7 : a7} {x8 y8 : a8} {x9 y9 : a9} {x10 y10 : a10} {x11 y11 : a11} (h : some (x1, x2, x3, x4, x5, x6, x7, x8, x9, x10, x11) = some (y1, y2, y3, y4, y5, y6, y7, y8, y9, y10, y11)) : x1 = y1 ∧ x2 = y2 ∧ x3 = y3 ∧ x4 = y4 ∧ x5 = y5 ∧ x6 = y6 ∧ x7 = y7 ∧ x8 = y8 ∧ x9 = y9 ∧ x10 = y10 ∧ x11 = y11 := by cases h; exact ⟨rfl, rfl, rfl, rfl, rfl, rfl, rfl, rfl, rfl, rfl, rfl⟩
def bd11 {a1 a2 a3 a4 a5 a6 a7 a8 a9 a10 a11 ρ : Type} (o : Option (a1 × a2 × a3 × a4 × a5 × a6 × a7 × a8 × a9 × a10 × a11)) (k : a1 → a2 → a3 → a4 → a5 → a6 → a7 → a8 → a9 → a10 → a11 → Option ρ) : Option ρ := o.bind fun x => k x.1 x.2.1 x.2.2.1 x.2.2.2.1 x.2.2.2.2.1 x.2.2.2.2.2.1 x.2.2.2.2.2.2.1 x.2.2.2.2.2.2.2.1 x.2.2.2.2.2.2.2.2.1 x.2.2.2.2.2.2.2.2.2.1 x.2.2.2.2.2.2.2.2.2.2
theorem bd11_at {a1 a2 a3 a4 a5 a6 a7 a8 a9 a10 a11 ρ : Type} {o : Option (a1 × a2 × a3 × a4 × a5 × a6 × a7 × a8 × a9 × a10 × a11)} {k : a1 → a2 → a3 → a4 → a5 → a6 → a7 → a8 → a9 → a10 → a11 → Option ρ} {r : ρ} (h : bd11 o k = some r) : ∃ x1 x2 x3 x4 x5 x6 x7 x8 x9 x10 x11, o = some (x1, x2, x3, x4, x5, x6, x7, x8, x9, x10, x11) ∧ k x1 x2 x3 x4 x5 x6 x7 x8 x9 x10 x11 = some r := by
  cases o with
  | none => cases h
  | some x => exact ⟨_, _, _, _, _, _, _, _, _, _, _, rfl, h⟩
theorem pj12 {a1 a2 a3 a4 a5 a6 a7 a8 a9 a10 a11 a12 : Type} {x1 y1 : a1} {x2 y2 : a2} {x3 y3 : a3} {x4 y4 : a4} {x5 y5 : a5} {x6 y6 : a6} {x7 y7 : a7} {x8 y8 : a8} {x9 y9 : a9} {x10 y10 : a10} {x11 y11 : a11} {x12 y12 : a12} (h : some (x1, x2, x3, x4, x5, x6, x7, x8, x9, x10, x11, x12) = some (y1, y2, y3, y4, y5, y6, y7, y8, y9, y10, y11, y12)) : x1 = y1 ∧ x2 = y2 ∧ x3 = y3 ∧ x4 = y4 ∧ x5 = y5 ∧ x6 = y6 ∧ x7 = y7 ∧ x8 = y8 ∧ x9 = y9 ∧ x10 = y10 ∧ x11 = y11 ∧ x12 = y12 := by cases h; exact ⟨rfl, rfl, rfl, rfl, rfl, rfl, rfl, rfl, rfl, rfl, rfl, rfl⟩
def bd12 {a1 a2 a3 a4 a5 a6 a7 a8 a9 a10 a11 a12 ρ : Type} (o : Option (a1 × a2 × a3 × a4 × a5 × a6 × a7 × a8 × a9 × a10 × a11 × a12)) (k : a1 → a2 → a3 → a4 → a5 → a6 → a7 → a8 → a9 → a10 → a11 → a12 → Option ρ) : Option ρ := o.bind fun x => k x.1 x.2.1 x.2.2.1 x.2.2.2.1 x.2.2.2.2.1 x.2.2.2.2.2.1 x.2.2.2.2.2.2.1 x.2.2.2.2.2.2.2.1 x.2.2.2.2.2.2.2.2.1 x.2.2.2.2.2.2.2.2.2.1 x.2.2.2.2.2.2.2.2.2.2.1 x.2.2.2.2.2.2.2.2.2.2.2
theorem bd12_at {a1 a2 a3 a4 a5 a6 a7 a8 a9 a10 a11 a12 ρ : Type} {o : Option (a1 × a2 × a3 × a4 × a5 × a6 × a7 × a8 × a9 × a10 × a11 × a12)} {k : a1 → a2 → a3 → a4 → a5 → a6 → a7 → a8 → a9 → a10 → a11 → a12 → Option ρ} {r : ρ} (h : bd12 o k = some r) : ∃ x1 x2 x3 x4 x5 x6 x7 x8 x9 x10 x11 x12, o = some (x1, x2, x3, x4, x5, x6, x7, x8, x9, x10, x11, x12) ∧ k x1 x2 x3 x4 x5 x6 x7 x8 x9 x10 x11 x12 = some r := by
  cases o with
  | none => cases h
  | some x => exact ⟨_, _, _, _, _, _, _, _, _, _, _, _, rfl, h⟩
theorem pj13 {a1 a2 a3 a4 a5 a6 a7 a8 a9 a10 a11 a12 a13 : Type} {x1 y1 : a1} {x2 y2 : a2} {x3 y3 : a3} {x4 y4 : a4} {x5 y5 : a5} {x6 y6 : a6} {x7 y7 : a7} {x8 y8 : a8} {x9 y9 : a9} {x10 y10 : a10} {x11 y11 : a11} {x12 y12 : a12} {x13 y13 : a13} (h : some (x1, x2, x3, x4, x5, x6, x7, x8, x9, x10, x11, x12, x13) = some (y1, y2, y3, y4, y5, y6, y7, y8, y9, y10, y11, y12, y13)) : x1 = y1 ∧ x2 = y2 ∧ x3 = y3 ∧ x4 = y4 ∧ x5 = y5 ∧ x6 = y6 ∧ x7 = y7 ∧ x8 = y8 ∧ x9 = y9 ∧ x10 = y10 ∧ x11 = y11 ∧ x12 = y12 ∧ x13 = y13 := by cases h; exact ⟨rfl, rfl, rfl, rfl, rfl, rfl, rfl, rfl, rfl, rfl, rfl, rfl, rfl⟩
def bd13 {a1 a2 a3 a4 a5 a6 a7 a8 a9 a10 a11 a12 a13 ρ : Type} (o : Option (a1 × a2 × a3 × a4 × a5 × a6 × a7 × a8 × a9 × a10 × a11 × a12 × a13)) (k : a1 → a2 → a3 → a4 → a5 → a6 → a7 → a8 → a9 → a10 → a11 → a12 → a13 → Option ρ) : Option ρ := o.bind fun x => k x.1 x.2.1 x.2.2.1 x.2.2.2.1 x.2.2.2.2.1 x.2.2.2.2.2.1 x.2.2.2.2.2.2.1 x.2.2.2.2.2.2.2.1 x.2.2.2.2.2.2.2.2.1 x.2.2.2.2.2.2.2.2.2.1 x.2.2.2.2.2.2.2.2.2.2.1 x.2.2.2.2.2.2.2.2.2.2.2.1 x.2.2.2.2.2.2.2.2.2.2.2.2
theorem bd13_at {a1 a2 a3 a4 a5 a6 a7 a8 a9 a10 a11 a12 a13 ρ : Type} {o : Option (a1 × a2 × a3 × a4 × a5 × a6 × a7 × a8 × a9 × a10 × a11 × a12 × a13)} {k : a1 → a2 → a3 → a4 → a5 → a6 → a7 → a8 → a9 → a10 → a11 → a12 → a13 → Option ρ} {r : ρ} (h : bd13 o k = some r) : ∃ x1 x2 x3 x4 x5 x6 x7 x8 x9 x10 x11 x12 x13, o = some (x1, x2, x3, x4, x5, x6, x7, x8, x9, x10, x11, x12, x13) ∧ k x1 x2 x3 x4 x5 x6 x7 x8 x9 x10 x11 x12 x13 = some r := by
  cases o with
  | none => cases h
  | some x => exact ⟨_, _, _, _, _, _, _, _, _, _, _, _, _, rfl, h⟩
/-- a tableswitch's default -/
theorem kne {x : Int32} {k : Int} {v : Int32} (hv : v.toInt = k) (h : ¬ x = v) : x.toInt ≠ k := fun e => h (Int32.toInt_inj.mp (e.trans hv.symm))
