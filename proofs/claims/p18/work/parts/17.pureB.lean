/-! plain facts to paste, each family by itself; over the kit's nI, lN and upd -/
/-! ===== drawers: more things than places ===== -/
theorem fb_holes : ∀ (m n : Nat) (f : Nat → Nat), (∀ i, i < n → f i < m) → (∀ i j, i < j → j < n → f i ≠ f j) → n ≤ m := by
  intro m
  induction m with
  | zero =>
    intro n f h1 _
    rcases Nat.eq_zero_or_pos n with h | h
    · omega
    · exact absurd (h1 0 h) (Nat.not_lt_zero _)
  | succ m ih =>
    intro n f h1 h2
    by_cases hx : ∃ i, i < n ∧ f i = m
    · obtain ⟨a, ha, hfa⟩ := hx
      have hg := ih (n - 1) (fun i => if i < a then f i else f (i + 1)) (by
        intro i hi
        by_cases q : i < a
        · simp only [if_pos q]
          have b1 := h1 i (by omega)
          have b2 := h2 i a q ha
          omega
        · simp only [if_neg q]
          have b1 := h1 (i + 1) (by omega)
          have b2 := h2 a (i + 1) (by omega) (by omega)
          omega) (by
        intro i j hij hj
        by_cases q : i < a
        · by_cases r : j < a
          · simp only [if_pos q, if_pos r]
            exact h2 i j hij (by omega)
          · simp only [if_pos q, if_neg r]
            exact h2 i (j + 1) (by omega) (by omega)
        · have r : ¬ j < a := by omega
          simp only [if_neg q, if_neg r]
          exact h2 (i + 1) (j + 1) (by omega) (by omega))
      omega
    · have hg := ih n f (fun i hi => by
        have b1 := h1 i hi
        have b2 : f i ≠ m := fun e => hx ⟨i, hi, e⟩
        omega) h2
      omega
/-- two of them in one place -/
theorem fb_twice {m n : Nat} {f : Nat → Nat} (h : ∀ i, i < n → f i < m) (hm : m < n) : ∃ i j, i < j ∧ j < n ∧ f i = f j := by
  refine Classical.byContradiction fun hx => ?_
  have := fb_holes m n f h (fun i j hij hj e => hx ⟨i, j, hij, hj, e⟩)
  omega
/-- as many as places, none twice: each place is taken -/
theorem fb_onto {n : Nat} {f : Nat → Nat} (h : ∀ i, i < n → f i < n) (h2 : ∀ i j, i < j → j < n → f i ≠ f j) {y : Nat} (hy : y < n) : ∃ i, i < n ∧ f i = y := by
  refine Classical.byContradiction fun hx => ?_
  have hne : ∀ i, i < n → f i ≠ y := fun i hi e => hx ⟨i, hi, e⟩
  have := fb_holes (n - 1) n (fun i => if f i < y then f i else f i - 1) (by
    intro i hi
    have b1 := h i hi
    have b2 := hne i hi
    by_cases q : f i < y
    · simp only [if_pos q]; omega
    · simp only [if_neg q]; omega) (by
    intro i j hij hj
    have b1 := hne i (by omega)
    have b2 := hne j hj
    have b3 := h2 i j hij hj
    by_cases q : f i < y
    · by_cases r : f j < y
      · simp only [if_pos q, if_pos r]; exact b3
      · simp only [if_pos q, if_neg r]; omega
    · by_cases r : f j < y
      · simp only [if_neg q, if_pos r]; omega
      · simp only [if_neg q, if_neg r]; omega)
  omega
/-! ===== how many places have a property ===== -/
def fb_ct (p : Nat → Bool) : Nat → Nat
  | 0 => 0
  | n + 1 => fb_ct p n + (if p n then 1 else 0)
theorem fb_ct_succ (p : Nat → Bool) (n : Nat) : fb_ct p (n + 1) = fb_ct p n + (if p n then 1 else 0) := rfl
theorem fb_ct_le (p : Nat → Bool) : ∀ n, fb_ct p n ≤ n
  | 0 => Nat.le_refl _
  | n + 1 => by
    have h := fb_ct_le p n
    rw [fb_ct_succ]
    split <;> omega
theorem fb_ct_step (p : Nat → Bool) (m : Nat) : ∀ n, fb_ct p m ≤ fb_ct p (m + n)
  | 0 => Nat.le_refl _
  | n + 1 => by
    have h := fb_ct_step p m n
    show fb_ct p m ≤ fb_ct p (m + n + 1)
    rw [fb_ct_succ]
    omega
theorem fb_ct_mono (p : Nat → Bool) {m n : Nat} (h : m ≤ n) : fb_ct p m ≤ fb_ct p n := by
  have := fb_ct_step p m (n - m)
  rwa [Nat.add_sub_cancel' h] at this
theorem fb_ct_cong {p q : Nat → Bool} : ∀ {n : Nat}, (∀ k, k < n → p k = q k) → fb_ct p n = fb_ct q n
  | 0, _ => rfl
  | n + 1, h => by
    rw [fb_ct_succ, fb_ct_succ, fb_ct_cong (fun k hk => h k (by omega)), h n (by omega)]
/-- one place changed -/
theorem fb_ct_out (p : Nat → Bool) (b : Bool) {i n : Nat} (h : n ≤ i) : fb_ct (fun k => if k = i then b else p k) n = fb_ct p n :=
  fb_ct_cong fun k hk => if_neg (by omega)
theorem fb_ct_upd (p : Nat → Bool) (b : Bool) {i : Nat} : ∀ {n : Nat}, i < n → fb_ct (fun k => if k = i then b else p k) n + (if p i then 1 else 0) = fb_ct p n + (if b then 1 else 0)
  | 0, h => absurd h (Nat.not_lt_zero i)
  | n + 1, h => by
    rw [fb_ct_succ, fb_ct_succ]
    rcases Nat.lt_or_ge i n with q | q
    · have := fb_ct_upd p b q
      have e : (if n = i then b else p n) = p n := if_neg (by omega)
      rw [e]
      omega
    · have e : i = n := by omega
      subst e
      rw [fb_ct_out p b (Nat.le_refl _)]
      simp only [if_true]
      omega
theorem fb_ct_sub {p q : Nat → Bool} : ∀ {n : Nat}, (∀ k, k < n → p k = true → q k = true) → fb_ct p n ≤ fb_ct q n
  | 0, _ => Nat.le_refl _
  | n + 1, h => by
    have h1 := fb_ct_sub (n := n) (p := p) (q := q) (fun k hk => h k (by omega))
    have h2 := h n (by omega)
    rw [fb_ct_succ, fb_ct_succ]
    cases hp : p n <;> cases hq : q n <;> simp_all <;> omega
theorem fb_ct_or {p q : Nat → Bool} : ∀ {n : Nat}, (∀ k, k < n → ¬ (p k = true ∧ q k = true)) → fb_ct (fun k => p k || q k) n = fb_ct p n + fb_ct q n
  | 0, _ => rfl
  | n + 1, h => by
    have h1 := fb_ct_or (n := n) (p := p) (q := q) (fun k hk => h k (by omega))
    have h2 := h n (by omega)
    rw [fb_ct_succ, fb_ct_succ, fb_ct_succ, h1]
    cases hp : p n <;> cases hq : q n <;> simp_all <;> omega
theorem fb_ct_not (p : Nat → Bool) : ∀ n, fb_ct p n + fb_ct (fun k => !p k) n = n
  | 0 => rfl
  | n + 1 => by
    have h := fb_ct_not p n
    rw [fb_ct_succ, fb_ct_succ]
    cases p n <;> simp <;> omega
theorem fb_ct_split (p : Nat → Bool) (m : Nat) : ∀ n, fb_ct p (m + n) = fb_ct p m + fb_ct (fun k => p (m + k)) n
  | 0 => rfl
  | n + 1 => by
    have h := fb_ct_split p m n
    show fb_ct p (m + n + 1) = _
    rw [fb_ct_succ, fb_ct_succ, h, Nat.add_assoc]
theorem fb_ct_zero {p : Nat → Bool} : ∀ {n : Nat}, fb_ct p n = 0 ↔ ∀ k, k < n → p k = false
  | 0 => ⟨fun _ k hk => absurd hk (Nat.not_lt_zero k), fun _ => rfl⟩
  | n + 1 => by
    have h := fb_ct_zero (p := p) (n := n)
    rw [fb_ct_succ]
    constructor
    · intro e k hk
      have e1 : fb_ct p n = 0 := by omega
      rcases Nat.lt_or_ge k n with q | q
      · exact h.mp e1 k q
      · have ek : k = n := by omega
        subst ek
        cases hp : p k
        · rfl
        · simp [hp] at e
    · intro a
      rw [h.mpr (fun k hk => a k (by omega)), a n (by omega)]
      rfl
theorem fb_ct_pos {p : Nat → Bool} {n : Nat} : 0 < fb_ct p n ↔ ∃ k, k < n ∧ p k = true := by
  constructor
  · intro h
    refine Classical.byContradiction fun hx => ?_
    have := fb_ct_zero.mpr (fun k hk => by
      cases hp : p k
      · rfl
      · exact absurd ⟨k, hk, hp⟩ hx : ∀ k, k < n → p k = false)
    omega
  · rintro ⟨k, hk, hp⟩
    rcases Nat.eq_zero_or_pos (fb_ct p n) with e | e
    · have := fb_ct_zero.mp e k hk
      rw [this] at hp
      cases hp
    · exact e
theorem fb_ct_all {p : Nat → Bool} {n : Nat} : fb_ct p n = n ↔ ∀ k, k < n → p k = true := by
  have h := fb_ct_not p n
  constructor
  · intro e k hk
    have z : fb_ct (fun k => !p k) n = 0 := by omega
    have := fb_ct_zero.mp z k hk
    cases hp : p k
    · simp [hp] at this
    · rfl
  · intro a
    have z : fb_ct (fun k => !p k) n = 0 := fb_ct_zero.mpr (fun k hk => by simp [a k hk])
    omega
/-- the k-th place with the property -/
theorem fb_ct_kth {p : Nat → Bool} {k : Nat} : ∀ {n : Nat}, k < fb_ct p n → ∃ i, i < n ∧ p i = true ∧ fb_ct p i = k
  | 0, h => absurd h (Nat.not_lt_zero k)
  | n + 1, h => by
    rcases Nat.lt_or_ge k (fb_ct p n) with q | q
    · obtain ⟨i, h1, h2⟩ := fb_ct_kth q
      exact ⟨i, by omega, h2⟩
    · rw [fb_ct_succ] at h
      cases hp : p n
      · simp [hp] at h; omega
      · simp [hp] at h
        exact ⟨n, by omega, hp, by omega⟩
theorem fb_ct_kth_one {p : Nat → Bool} {i j : Nat} (hi : p i = true) (hj : p j = true) (e : fb_ct p i = fb_ct p j) : i = j := by
  have key : ∀ a b : Nat, a < b → p a = true → fb_ct p a < fb_ct p b := by
    intro a b hab ha
    have h := fb_ct_mono p (show a + 1 ≤ b from hab)
    rw [fb_ct_succ, ha] at h
    simp at h
    omega
  rcases Nat.lt_trichotomy i j with q | q | q
  · have := key i j q hi; omega
  · exact q
  · have := key j i q hj; omega
/-! Places in a league are each given once; ranges of arguments. -/
theorem ahead_iff (F : Nat → Nat → Int32) (a b : Nat) : ahead F a b = true ↔ ((F 2 b).toInt < (F 2 a).toInt ∨ ((F 2 a).toInt = (F 2 b).toInt ∧ ((F 1 b).toInt < (F 1 a).toInt ∨ ((F 1 a).toInt = (F 1 b).toInt ∧ a < b)))) := by
  unfold ahead
  by_cases h2 : F 2 a = F 2 b
  · rw [if_pos h2]
    have e2 : (F 2 a).toInt = (F 2 b).toInt := by rw [h2]
    by_cases h1 : F 1 a = F 1 b
    · rw [if_pos h1]
      have e1 : (F 1 a).toInt = (F 1 b).toInt := by rw [h1]
      simp only [decide_eq_true_eq]
      omega
    · rw [if_neg h1]
      have e1 : ¬ (F 1 a).toInt = (F 1 b).toInt := fun q => h1 (Int32.toInt_inj.mp q)
      simp only [decide_eq_true_eq, Int32.le_iff_toInt_le]
      omega
  · rw [if_neg h2]
    have e2 : ¬ (F 2 a).toInt = (F 2 b).toInt := fun q => h2 (Int32.toInt_inj.mp q)
    simp only [decide_eq_true_eq, Int32.le_iff_toInt_le]
    omega
theorem ahead_trans {F : Nat → Nat → Int32} {a b c : Nat} (h1 : ahead F a b = true) (h2 : ahead F b c = true) : ahead F a c = true := by
  rw [ahead_iff] at h1 h2 ⊢
  omega
theorem ahead_or {F : Nat → Nat → Int32} {a b : Nat} (h : a ≠ b) : ahead F a b = true ∨ ahead F b a = true := by
  rw [ahead_iff, ahead_iff]
  omega
def s_mem (F : Nat → Nat → Int32) (g : Int32) (k : Nat) : Bool := decide (F 0 k = g)
def s_rkP (F : Nat → Nat → Int32) (g : Int32) (w k : Nat) : Bool := decide (F 0 k = g) && ahead F k w
theorem many_ct (F : Nat → Nat → Int32) (g : Int32) (m : Nat) : s_manyU F g m = fb_ct (s_mem F g) m := by
  induction m with
  | zero => rfl
  | succ m ih =>
    show (if F 0 m = g then s_manyU F g m + 1 else s_manyU F g m) = fb_ct (s_mem F g) m + (if s_mem F g m then 1 else 0)
    rw [ih]
    unfold s_mem
    by_cases h : F 0 m = g
    · simp [h]
    · simp [h]
theorem place_ct {F : Nat → Nat → Int32} {g : Int32} {w : Nat} (hw : F 0 w = g) (m : Nat) : s_placeU F w m = 1 + fb_ct (s_rkP F g w) m := by
  induction m with
  | zero => rfl
  | succ m ih =>
    show (if F 0 m = F 0 w ∧ ahead F m w = true then s_placeU F w m + 1 else s_placeU F w m) = 1 + (fb_ct (s_rkP F g w) m + (if s_rkP F g w m then 1 else 0))
    rw [ih, hw]
    unfold s_rkP
    by_cases h : F 0 m = g
    · by_cases h2 : ahead F m w = true
      · simp [h, h2, Nat.add_assoc]
      · simp [h, h2]
    · simp [h]
/-- one more, where one of q's is not among p's -/
theorem ct_lt {p q : Nat → Bool} {n w : Nat} (hw : w < n) (h1 : ∀ k, k < n → p k = true → q k = true) (h2 : p w = false) (h3 : q w = true) : fb_ct p n < fb_ct q n := by
  have a := fb_ct_upd p true hw
  rw [h2] at a
  have b : fb_ct (fun k => if k = w then true else p k) n ≤ fb_ct q n := fb_ct_sub (fun k hk h => by
    by_cases e : k = w
    · rw [e]; exact h3
    · exact h1 k hk (by simpa [e] using h))
  rw [if_neg (by decide), if_pos rfl] at a
  omega
theorem rk_lt {n : Nat} {F : Nat → Nat → Int32} {g : Int32} {w : Nat} (hw : w < n) (hm : F 0 w = g) : fb_ct (s_rkP F g w) n < fb_ct (s_mem F g) n :=
  ct_lt hw (fun k _ h => by unfold s_rkP at h; unfold s_mem; simp at h; simp [h.1]) (by unfold s_rkP; rw [ahead_self, Bool.and_false]) (by unfold s_mem; simp [hm])
theorem rk_mono {n : Nat} {F : Nat → Nat → Int32} {g : Int32} {a b : Nat} (ha : a < n) (hm : F 0 a = g) (h : ahead F a b = true) : fb_ct (s_rkP F g a) n < fb_ct (s_rkP F g b) n :=
  ct_lt ha (fun k _ h1 => by unfold s_rkP at h1 ⊢; simp at h1; simp [h1.1, ahead_trans h1.2 h]) (by unfold s_rkP; rw [ahead_self, Bool.and_false]) (by unfold s_rkP; simp [hm, h])
theorem rk_onto {n : Nat} {F : Nat → Nat → Int32} {g : Int32} {y : Nat} (hy : y < fb_ct (s_mem F g) n) : ∃ w, w < n ∧ F 0 w = g ∧ fb_ct (s_rkP F g w) n = y := by
  have e : ∀ i, i < fb_ct (s_mem F g) n → ∃ k, k < n ∧ s_mem F g k = true ∧ fb_ct (s_mem F g) k = i := fun i hi => fb_ct_kth hi
  obtain ⟨f, hf⟩ : ∃ f : Nat → Nat, ∀ i, i < fb_ct (s_mem F g) n → f i < n ∧ s_mem F g (f i) = true ∧ fb_ct (s_mem F g) (f i) = i :=
    ⟨fun i => if h : i < fb_ct (s_mem F g) n then Classical.choose (e i h) else 0, fun i hi => by
      simp only [dif_pos hi]
      exact Classical.choose_spec (e i hi)⟩
  have hm : ∀ i, i < fb_ct (s_mem F g) n → F 0 (f i) = g := fun i hi => by
    have := (hf i hi).2.1
    unfold s_mem at this
    simpa using this
  obtain ⟨i, hi, hr⟩ := fb_onto (n := fb_ct (s_mem F g) n) (f := fun i => fb_ct (s_rkP F g (f i)) n) (fun i hi => rk_lt (hf i hi).1 (hm i hi)) (fun i j hij hj => by
    have hi : i < fb_ct (s_mem F g) n := by omega
    have hne : f i ≠ f j := fun q => by
      have a := (hf i hi).2.2
      have b := (hf j hj).2.2
      rw [q, b] at a
      omega
    rcases ahead_or (F := F) hne with q | q
    · have := rk_mono (n := n) (g := g) (hf i hi).1 (hm i hi) q
      show fb_ct (s_rkP F g (f i)) n ≠ fb_ct (s_rkP F g (f j)) n
      omega
    · have := rk_mono (n := n) (g := g) (hf j hj).1 (hm j hj) q
      show fb_ct (s_rkP F g (f i)) n ≠ fb_ct (s_rkP F g (f j)) n
      omega) hy
  exact ⟨f i, (hf i hi).1, hm i hi, hr⟩
theorem s_atU_none {n : Nat} {F : Nat → Nat → Int32} {p q : Int32} : ∀ m, s_atU n F p q m = none → ∀ k, k < m → ¬ (F 0 k = p ∧ nI (s_place n F k) = q)
  | 0, _, k, hk => absurd hk (Nat.not_lt_zero k)
  | m + 1, h, k, hk => by
    have h' : (match s_atU n F p q m with | some b => some b | none => if F 0 m = p ∧ nI (s_place n F m) = q then some m else none) = none := h
    cases h2 : s_atU n F p q m with
    | some b => rw [h2] at h'; cases h'
    | none =>
      rw [h2] at h'
      rcases Nat.lt_or_ge k m with c | c
      · exact s_atU_none m h2 k c
      · intro c2
        have e : k = m := by omega
        subst e
        have h3 : (if F 0 k = p ∧ nI (s_place n F k) = q then some k else none) = none := h'
        rw [if_pos c2] at h3
        cases h3
def s_in (v lo hi : Int32) : Bool := if v < lo then false else if hi < v then false else true
theorem s_in_t {v lo hi : Int32} (h : s_in v lo hi = true) : ¬ v < lo ∧ v ≤ hi := by
  unfold s_in at h
  by_cases c : v < lo
  · rw [if_pos c] at h; cases h
  · rw [if_neg c] at h
    by_cases c2 : hi < v
    · rw [if_pos c2] at h; cases h
    · exact ⟨c, Int32.not_lt.mp c2⟩
theorem s_in_f {v lo hi : Int32} (h : s_in v lo hi = false) : v < lo ∨ hi < v := by
  unfold s_in at h
  by_cases c : v < lo
  · exact Or.inl c
  · rw [if_neg c] at h
    by_cases c2 : hi < v
    · exact Or.inr c2
    · rw [if_neg c2] at h; cases h
theorem at_in {n : Nat} (hn : n ≤ 12) {F : Nat → Nat → Int32} {g q : Int32} (h : s_in q 1 (nI (s_many n F g)) = true) : ∃ k, s_at n F g q = some k := by
  obtain ⟨h1, h2⟩ := s_in_t h
  have hle : s_many n F g ≤ 12 := by
    have : s_many n F g ≤ n := by unfold s_many; rw [many_ct]; exact fb_ct_le _ n
    omega
  obtain ⟨y, y1, y2, rfl⟩ := rngI (u := 1) (v := s_many n F g) h1 h2 rfl rfl (by omega) (by decide)
  have e : s_many n F g = fb_ct (s_mem F g) n := many_ct F g n
  obtain ⟨w, hw, hm, hr⟩ := rk_onto (n := n) (F := F) (g := g) (y := y - 1) (by omega)
  cases h3 : s_at n F g (nI y) with
  | some k => exact ⟨k, rfl⟩
  | none =>
    refine absurd ⟨hm, ?_⟩ (s_atU_none n h3 w hw)
    have : s_place n F w = 1 + fb_ct (s_rkP F g w) n := place_ct hm n
    rw [this, hr]
    congr 1; omega
theorem at_out {n : Nat} (hn : n ≤ 12) {F : Nat → Nat → Int32} {g q : Int32} (h : s_in q 1 (nI (s_many n F g)) = false) : s_at n F g q = none := by
  cases h3 : s_at n F g q with
  | none => rfl
  | some k =>
    obtain ⟨hk, hm, hq⟩ := s_at_lt n k h3
    have e : s_many n F g = fb_ct (s_mem F g) n := many_ct F g n
    have hp : s_place n F k = 1 + fb_ct (s_rkP F g k) n := place_ct hm n
    have hl := rk_lt (n := n) hk hm
    have hle : s_many n F g ≤ n := by rw [e]; exact fb_ct_le _ n
    rw [← hq] at h
    rcases s_in_f h with c | c
    · have := (nI_ltI (a := s_place n F k) (b := 1) (by omega) (by decide)).mp c; omega
    · have := (nI_ltI (a := s_many n F g) (b := s_place n F k) (by omega) (by omega)).mp c; omega
theorem in_has {n : Nat} (hn : n ≤ 12) (v : Int32) : s_in v 0 (nI n - 1) = s_has n v := by
  unfold s_in s_has
  by_cases c : v < 0
  · rw [if_pos c, if_pos c]
  · rw [if_neg c, if_neg c]
    obtain ⟨j, hj, rfl⟩ := nI_of c
    by_cases h0 : n = 0
    · subst h0
      rw [if_pos (nI_le (by omega) hj)]
      have : nI 0 - 1 < nI j := by
        refine Int32.lt_iff_toInt_lt.mpr ?_
        rw [nI_toInt hj]
        have z : (nI 0 - 1).toInt = -1 := by decide
        rw [z]; omega
      rw [if_pos this]
    · rw [show nI n - 1 = nI (n - 1) from pk_sub (b := 1) (by omega)]
      by_cases c2 : n ≤ j
      · rw [if_pos (nI_le c2 hj), if_pos (nI_lt (by omega) hj)]
      · rw [if_neg (fun z => c2 ((nI_leI (by omega) hj).mp z)), if_neg (fun z => absurd ((nI_ltI (by omega) hj).mp z) (by omega))]
theorem in_lg (v : Int32) : s_in v 0 2 = s_lg v := by
  unfold s_in s_lg
  by_cases c : v < 0
  · rw [if_pos c, if_pos c]
  · rw [if_neg c, if_neg c]
    obtain ⟨j, hj, rfl⟩ := nI_of c
    show (if nI 2 < nI j then false else true) = (if nI 3 ≤ nI j then false else true)
    by_cases c2 : 3 ≤ j
    · rw [if_pos (nI_lt (a := 2) (by omega) hj), if_pos (nI_le (a := 3) c2 hj)]
    · rw [if_neg (fun z => absurd ((nI_ltI (a := 2) (by omega) hj).mp z) (by omega)), if_neg (fun z => c2 ((nI_leI (a := 3) (by omega) hj).mp z))]
theorem in_08 (v : Int32) : s_in v 0 8 = s_08 v := by
  unfold s_in s_08
  have z0 : (0 : Int32).toInt = 0 := rfl
  have z8 : (8 : Int32).toInt = 8 := rfl
  by_cases c : v < 0
  · rw [if_pos c]
    have := Int32.lt_iff_toInt_lt.mp c
    rw [decide_eq_false (by omega)]; rfl
  · rw [if_neg c]
    have h1 := Int32.le_iff_toInt_le.mp (Int32.not_lt.mp c)
    by_cases c2 : 8 < v
    · rw [if_pos c2]
      have := Int32.lt_iff_toInt_lt.mp c2
      rw [show decide (v.toInt ≤ 8) = false from decide_eq_false (by omega), Bool.and_false]
    · rw [if_neg c2]
      have := Int32.le_iff_toInt_le.mp (Int32.not_lt.mp c2)
      rw [decide_eq_true (by omega), decide_eq_true (by omega)]; rfl
theorem in_cr (v : Int32) : (s_in v 0 2 = true ↔ x_cr v = 0) := by
  unfold s_in x_cr
  by_cases c : v < 0
  · rw [if_pos c, if_pos c]; simp
  · rw [if_neg c, if_neg c]
    by_cases c2 : 2 < v
    · rw [if_pos c2, if_neg (Int32.not_le.mpr c2)]; simp
    · rw [if_neg c2, if_pos (Int32.not_lt.mp c2)]; simp
theorem in_01 (v : Int32) : (s_in v 0 1 = true ↔ (v = 0 ∨ v = 1)) := by
  constructor
  · intro h
    obtain ⟨h1, h2⟩ := s_in_t h
    obtain ⟨y, -, y2, rfl⟩ := rngI (u := 0) (v := 1) h1 h2 rfl rfl (by decide) (by decide)
    rcases (show y = 0 ∨ y = 1 by omega) with rfl | rfl
    · exact Or.inl rfl
    · exact Or.inr rfl
  · rintro (rfl | rfl) <;> decide
/-- the answer where nothing is thrown -/
def mo {α : Type} (k : Nat) (x y : α) : α := if k = 0 then x else y
theorem mo_0 {α : Type} (x y : α) : mo 0 x y = x := rfl
theorem mo_s {α : Type} (k : Nat) (x y : α) : mo (k + 1) x y = y := if_neg (Nat.succ_ne_zero k)
