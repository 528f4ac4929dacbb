/-! ranks of eight numbers -/
theorem b_shl (n : Nat) (hn : n < 32) (x : Int32) {i : Nat} (hi : i < 32) : bt (x <<< (nI n &&& 31)) i = (decide (n ≤ i) && bt x (i - n)) := by
  unfold bt
  rw [Int32.toBitVec_shiftLeft]
  show (x.toBitVec <<< ((nI n &&& 31).toBitVec.smod 32).toNat).getLsbD i = _
  rw [s_l n hn, BitVec.getLsbD_shiftLeft]
  rcases Nat.lt_or_ge i n with h | h
  · simp [h, Nat.not_le.mpr h]
  · simp [hi, h, Nat.not_lt.mpr h]
def sp_lt (key : Nat → Int) (x y : Nat) : Bool := decide (key x < key y ∨ (key x = key y ∧ x < y))
def sp_cnt (p : Nat → Bool) : Nat → Nat
  | 0 => 0
  | k + 1 => sp_cnt p k + (if p k = true then 1 else 0)
theorem cnt_s (p : Nat → Bool) (k : Nat) : sp_cnt p (k + 1) = sp_cnt p k + (if p k = true then 1 else 0) := rfl
theorem cnt_le {p q : Nat → Bool} : ∀ n, (∀ k, k < n → p k = true → q k = true) → sp_cnt p n ≤ sp_cnt q n
  | 0, _ => Nat.le_refl 0
  | n + 1, h => by
    have h1 := cnt_le n (fun k hk => h k (by omega))
    have h2 := h n (by omega)
    rw [cnt_s, cnt_s]
    by_cases hp : p n = true
    · rw [if_pos hp, if_pos (h2 hp)]; omega
    · rw [if_neg hp]; omega
theorem cnt_lt {p q : Nat → Bool} : ∀ n, (∀ k, k < n → p k = true → q k = true) → (∃ k, k < n ∧ q k = true ∧ p k = false) → sp_cnt p n < sp_cnt q n
  | 0, _, h => by obtain ⟨k, hk, -⟩ := h; omega
  | n + 1, h, hx => by
    have h2 := h n (by omega)
    rw [cnt_s, cnt_s]
    obtain ⟨k, hk, hq, hp⟩ := hx
    by_cases e : k = n
    · subst e
      have h1 := cnt_le (p := p) (q := q) k (fun m hm => h m (by omega))
      rw [if_pos hq, hp, if_neg (show ¬ (false = true) by decide)]; omega
    · have h1 := cnt_lt n (fun m hm => h m (by omega)) ⟨k, by omega, hq, hp⟩
      by_cases hp : p n = true
      · rw [if_pos hp, if_pos (h2 hp)]; omega
      · rw [if_neg hp]; omega
theorem cnt_n (p : Nat → Bool) : ∀ n, sp_cnt p n ≤ n
  | 0 => Nat.le_refl 0
  | n + 1 => by
    have := cnt_n p n
    rw [cnt_s]; split <;> omega
def sp_rk (key : Nat → Int) (x : Nat) : Nat := sp_cnt (fun y => sp_lt key y x) 8
theorem lt_irr (key : Nat → Int) (x : Nat) : sp_lt key x x = false := decide_eq_false (by omega)
theorem lt_tr {key : Nat → Int} {x y z : Nat} (h1 : sp_lt key x y = true) (h2 : sp_lt key y z = true) : sp_lt key x z = true := by
  have a := of_decide_eq_true h1
  have b := of_decide_eq_true h2
  exact decide_eq_true (by omega)
theorem lt_tot {key : Nat → Int} {x y : Nat} (h : x ≠ y) : sp_lt key x y = true ∨ sp_lt key y x = true := by
  by_cases c : key x < key y ∨ (key x = key y ∧ x < y)
  · exact Or.inl (decide_eq_true c)
  · exact Or.inr (decide_eq_true (by omega))
theorem rk_mono {key : Nat → Int} {x y : Nat} (hx : x < 8) (h : sp_lt key x y = true) : sp_rk key x < sp_rk key y :=
  cnt_lt 8 (fun k _ hk => lt_tr hk h) ⟨x, hx, h, lt_irr key x⟩
theorem rk_8 {key : Nat → Int} {x : Nat} (hx : x < 8) : sp_rk key x < 8 := by
  have h := cnt_lt (p := fun y => sp_lt key y x) (q := fun _ => true) 8 (fun _ _ _ => rfl) ⟨x, hx, rfl, lt_irr key x⟩
  have h8 := cnt_n (fun _ => true) 8
  unfold sp_rk
  omega
theorem rk_inj {key : Nat → Int} {x y : Nat} (hx : x < 8) (hy : y < 8) (h : sp_rk key x = sp_rk key y) : x = y := by
  apply Decidable.byContradiction
  intro hne
  rcases lt_tot (key := key) hne with c | c
  · have := rk_mono hx c; omega
  · have := rk_mono hy c; omega
theorem rk_sur (key : Nat → Int) {k : Nat} (hk : k < 8) : ∃ x, x < 8 ∧ sp_rk key x = k := by
  apply Decidable.byContradiction
  intro hno
  have hne : ∀ x, x < 8 → sp_rk key x ≠ k := fun x hx h => hno ⟨x, hx, h⟩
  have := pigeon 7 8 (fun x => if sp_rk key x < k then sp_rk key x else sp_rk key x - 1) (fun x hx => by
    show (if sp_rk key x < k then sp_rk key x else sp_rk key x - 1) < 7
    have a := rk_8 (key := key) hx
    have b := hne x hx
    split <;> omega) (fun x y hxy hy => by
    show (if sp_rk key x < k then sp_rk key x else sp_rk key x - 1) ≠ (if sp_rk key y < k then sp_rk key y else sp_rk key y - 1)
    have a := hne x (by omega)
    have b := hne y hy
    have c : sp_rk key x ≠ sp_rk key y := fun h => absurd (rk_inj (by omega) hy h) (by omega)
    split <;> split <;> omega)
  omega
theorem e_r87 (N : Nat) {ks : Int32} {f g a b c : Nat → Int32} (K32 : Int32 → Int32 → Int32 → (Nat → Int64) → Option (Int32 × Int32 × (Nat → Int64))) (K43 : Int32 → Int32 → Int32 → Int32 → Int32 → (Nat → Int64) → Option (Int32 × Int32 × (Nat → Int64))) (v1 : Int32) (key : Nat → Int) {x k : Nat} (hx : x < 8) (hk : k < 8) (hb : ∀ y, y < 8 → -1000000000000000000 ≤ key y ∧ key y ≤ 1000000000000000000) (tl : Int32) (nn : Nat → Int64) : fX9_ranked_j87 N ks f g a b c K32 K43 v1 (zI x) (zI (sp_cnt (fun y => sp_lt key y x) k : Nat)) (zI k) (zL (key k - key x)) tl nn = K43 v1 (zI x) (zI (sp_cnt (fun y => sp_lt key y x) (k + 1) : Nat)) (zI ((k + 1 : Nat) : Int)) tl nn := by
  have b1 := hb x hx
  have b2 := hb k hk
  have b3 := cnt_n (fun y => sp_lt key y x) k
  have c1 : zI (k : Int) + (1 : Int32) = zI ((k + 1 : Nat) : Int) := by rw [zl_1, zI_add]; rfl
  have c2 : zI (sp_cnt (fun y => sp_lt key y x) k : Int) + (1 : Int32) = zI ((sp_cnt (fun y => sp_lt key y x) k + 1 : Nat) : Int) := by rw [zl_1, zI_add]; rfl
  unfold fX9_ranked_j87
  rw [c1, c2, cnt_s, zll_0]
  simp only [nm_t]
  by_cases h1 : key k < key x
  · rw [if_pos (k_lt (by omega)), if_pos (show sp_lt key k x = true from decide_eq_true (by omega))]
  · rw [if_neg (k_nlt (by omega))]
    by_cases h2 : key k = key x
    · rw [if_pos (k_eq (by omega))]
      by_cases h3 : x ≤ k
      · rw [if_pos (i_le rfl (by omega)), if_neg (show ¬ sp_lt key k x = true from fun h => absurd (of_decide_eq_true h) (by omega))]
        rfl
      · rw [if_neg (i_nle rfl (by omega)), if_pos (show sp_lt key k x = true from decide_eq_true (by omega))]
    · rw [if_neg (k_neq (by omega)), if_neg (show ¬ sp_lt key k x = true from fun h => absurd (of_decide_eq_true h) (by omega))]
      rfl
def KeyC (N : Nat) (ks : Int32) (f g a b c : Nat → Int32) (v1 : Int32) (key : Nat → Int) : Prop := ∀ (X : Int64 → Option (Int32 × Int32 × (Nat → Int64))) (x k : Nat), x < 8 → k < 8 → (if v1 = (0 : Int32) then (bd1 (fX4_instantAt N (zI k) f g) fun r15 => (bd1 (fX4_instantAt N (zI x) f g) fun r17 => X (r15 - r17))) else (bd1 (fX9_lengthOf N (zI k) ks a b c) fun r19 => (bd1 (fX9_lengthOf N (zI x) ks a b c) fun r21 => X (r19 - r21)))) = X (zL (key k - key x))
theorem l_r43 (N : Nat) {ks : Int32} {f g a b c : Nat → Int32} (K32 : Int32 → Int32 → Int32 → (Nat → Int64) → Option (Int32 × Int32 × (Nat → Int64))) (v1 : Int32) (key : Nat → Int) (hkey : KeyC N ks f g a b c v1 key) (hb : ∀ y, y < 8 → -1000000000000000000 ≤ key y ∧ key y ≤ 1000000000000000000) {x : Nat} (hx : x < 8) (tl : Int32) (nn : Nat → Int64) : ∀ (n k : Nat), k ≤ 8 → 8 < k + n → fX9_ranked_l43 N ks f g a b c K32 n v1 (zI x) (zI (sp_cnt (fun y => sp_lt key y x) k : Nat)) (zI k) tl nn = K32 v1 (zI ((x + 1 : Nat) : Int)) tl (vp_updL nn (sp_rk key x) (zL x)) := by
  intro n
  induction n with
  | zero => intro k h1 h2; omega
  | succ n ih =>
    intro k h1 h2
    rw [fX9_ranked_l43_s]
    by_cases hd : 8 ≤ k
    · have e : k = 8 := by omega
      subst e
      have h8 := rk_8 (key := key) hx
      have c1 : zI (x : Int) + (1 : Int32) = zI ((x + 1 : Nat) : Int) := by rw [zl_1, zI_add]; rfl
      rw [if_pos (i_ge' (b := 8) (by decide) (by omega)), show sp_cnt (fun y => sp_lt key y x) 8 = sp_rk key x from rfl, e_put N h8, bd1_s, nm_s, c1, zI_toL (by omega) (by omega)]
    · rw [if_neg (i_nge' (b := 8) (by decide) (by omega))]
      have q := hkey (fun t => fX9_ranked_j87 N ks f g a b c K32 (fX9_ranked_l43 N ks f g a b c K32 n) v1 (zI x) (zI (sp_cnt (fun y => sp_lt key y x) k : Nat)) (zI k) t tl nn) x k hx (by omega)
      refine Eq.trans q ?_
      rw [e_r87 N K32 _ v1 key hx (by omega) hb tl nn]
      exact ih (k + 1) (by omega) (by omega)
theorem l_r32 (N : Nat) (hN : 200000 ≤ N) {ks : Int32} {f g a b c : Nat → Int32} (v1 : Int32) (key : Nat → Int) (hkey : KeyC N ks f g a b c v1 key) (hb : ∀ y, y < 8 → -1000000000000000000 ≤ key y ∧ key y ≤ 1000000000000000000) (tl : Int32) : ∀ (n x : Nat) (nn : Nat → Int64), x ≤ 8 → 8 < x + n → (∀ y, y < x → nn (sp_rk key y) = zL y) → ∃ nn', fX9_ranked_l32 N ks f g a b c n v1 (zI x) tl nn = some ((nn' 0).toInt32, tl, nn') ∧ ∀ y, y < 8 → nn' (sp_rk key y) = zL y := by
  intro n
  induction n with
  | zero => intro x nn h1 h2; omega
  | succ n ih =>
    intro x nn h1 h2 h3
    rw [fX9_ranked_l32_s]
    by_cases hd : 8 ≤ x
    · rw [if_pos (i_ge' (b := 8) (by decide) (by omega)), show (0 : Int32) = zI ((0 : Nat) : Int) by decide, e_at N (by omega), bd1_s]
      exact ⟨nn, rfl, fun y hy => h3 y (by omega)⟩
    · rw [if_neg (i_nge' (b := 8) (by decide) (by omega))]
      have q := l_r43 N (fX9_ranked_l32 N ks f g a b c n) v1 key hkey hb (show x < 8 by omega) tl nn N 0 (by omega) (by omega)
      rw [show zI ((sp_cnt (fun y => sp_lt key y x) 0 : Nat) : Int) = (0 : Int32) by rfl, show zI ((0 : Nat) : Int) = (0 : Int32) by decide] at q
      rw [q]
      refine ih (x + 1) _ (by omega) (by omega) (fun y hy => ?_)
      by_cases e : y = x
      · subst e; rw [updL_s]
      · rw [updL_n (fun h => e (rk_inj (by omega) (by omega) h))]
        exact h3 y (by omega)
theorem l_r9 (N : Nat) {ks : Int32} {f g a b c : Nat → Int32} (v1 : Int32) : ∀ (n x : Nat) (nn : Nat → Int64), x ≤ 8 → 8 < x + n → ∃ nn', fX9_ranked_l9 N ks f g a b c n v1 (zI x) (zI x) nn = fX9_ranked_l32 N ks f g a b c N v1 (0 : Int32) (zI 8) nn' := by
  intro n
  induction n with
  | zero => intro x nn h1 h2; omega
  | succ n ih =>
    intro x nn h1 h2
    rw [fX9_ranked_l9_s]
    by_cases hd : 8 ≤ x
    · rw [if_pos (i_ge' (b := 8) (by decide) (by omega)), show x = 8 by omega]
      exact ⟨nn, rfl⟩
    · rw [if_neg (i_nge' (b := 8) (by decide) (by omega)), e_push N (by omega), bd2_s, nm_s, show zI (x : Int) + (1 : Int32) = zI ((x + 1 : Nat) : Int) by rw [zl_1, zI_add]; rfl]
      exact ih (x + 1) _ (by omega) (by omega)
theorem e_ranked (N : Nat) (hN : 200000 ≤ N) {ks : Int32} {f g a b c : Nat → Int32} (v1 : Int32) (key : Nat → Int) (hkey : KeyC N ks f g a b c v1 key) (hb : ∀ y, y < 8 → -1000000000000000000 ≤ key y ∧ key y ≤ 1000000000000000000) (tl : Int32) (nn : Nat → Int64) : ∃ nn', fX9_ranked N v1 ks f g a b c tl nn = some ((nn' 0).toInt32, zI 8, nn') ∧ ∀ y, y < 8 → nn' (sp_rk key y) = zL y := by
  unfold fX9_ranked fX3_begin
  rw [bd1_s]
  obtain ⟨n1, e1⟩ := l_r9 N (ks := ks) (f := f) (g := g) (a := a) (b := b) (c := c) v1 N 0 nn (by omega) (by omega)
  rw [show zI ((0 : Nat) : Int) = (0 : Int32) by decide] at e1
  obtain ⟨n2, e2, e3⟩ := l_r32 N hN (ks := ks) v1 key hkey hb (zI 8) N 0 n1 (by omega) (by omega) (fun y hy => by omega)
  rw [show zI ((0 : Nat) : Int) = (0 : Int32) by decide] at e2
  exact ⟨n2, by rw [e1, e2], e3⟩
theorem zI_nI (n : Nat) : zI (n : Int) = nI n := Int32.ofInt_eq_ofNat
theorem bt_1 (i : Nat) : bt 1 i = decide (i = 0) := by
  rcases Nat.lt_or_ge i 32 with h | h
  · exact (by decide +kernel : ∀ i, i < 32 → bt 1 i = decide (i = 0)) i h
  · rw [b_big h, decide_eq_false (by omega)]
theorem seen_0 (v : Int32) {x : Nat} (hx : x < 8) : ((v >>> (zI x &&& 31)) &&& (1 : Int32)) = 0 ↔ bt v x = false := by
  have e : bt (v >>> (nI x &&& 31)) 0 = bt v x := by rw [b_sshr x (by omega) v (by omega), if_pos (by omega), Nat.add_zero]
  rw [zI_nI]
  constructor
  · intro h
    have := congrArg (fun y => bt y 0) h
    simp only [b_and, bt_1, e] at this
    rw [show bt 0 0 = false by decide] at this
    simpa using this
  · intro h
    refine b_ext fun i hi => ?_
    rw [b_and, bt_1, show bt 0 i = false from BitVec.getLsbD_zero]
    by_cases h0 : i = 0
    · subst h0; rw [e, h]; rfl
    · rw [decide_eq_false h0, Bool.and_false]
theorem seen_up (v : Int32) {b y : Nat} (hb : b < 8) (hy : y < 8) : bt (v ||| ((1 : Int32) <<< (zI b &&& 31))) y = (bt v y || decide (y = b)) := by
  have h1 : bt (v ||| ((1 : Int32) <<< (nI b &&& 31))) y = (bt v y || bt ((1 : Int32) <<< (nI b &&& 31)) y) := by unfold bt; rw [Int32.toBitVec_or, BitVec.getLsbD_or]
  rw [zI_nI, h1, b_shl b (by omega) 1 (by omega), bt_1]
  by_cases e : y = b
  · subst e; simp
  · rw [decide_eq_false e]
    by_cases h2 : b ≤ y
    · rw [decide_eq_true h2, decide_eq_false (by omega)]; rfl
    · rw [decide_eq_false h2]; rfl

