/-! Pure facts for the law's loop: the state's bounds through every call, and the two sides' answers. -/
theorem okR_add {n : Nat} {F : Nat → Nat → Int32} (g : Int32) (h : okR n F) : okR (n + 1) (s_add F n g) := by
  intro i hi
  have e : s_add F n g 1 i = if i = n then 1000 else F 1 i := by simp [s_add, pu_app]
  rw [e]
  by_cases c : i = n
  · rw [if_pos c]; exact ⟨1000, by decide, by decide, rfl⟩
  · rw [if_neg c]; exact h i (by omega)
theorem okK_add {m n k : Nat} {F : Nat → Nat → Int32} (g : Int32) (h : okK m F k) : okK m (s_add F n g) k := by
  intro i hi
  have e : s_add F n g 4 i = F 4 i := by simp [s_add, pu_app]
  rw [e]
  exact h i hi
theorem okK_set {m k w : Nat} {F : Nat → Nat → Int32} {x : Int32} (h : okK m F k) : okK m (s_set F w x) k := by
  intro i hi
  rw [set_4]; exact h i hi
theorem okK_hold {m k a b q : Nat} {F : Nat → Nat → Int32} (hab : a ≠ b) (h : okK m F k) : okK m (s_hold F a b q) (k + 1) := by
  rw [hold_mb F q hab]; exact okK_mb hab h
theorem okK.sub {m n k : Nat} {F : Nat → Nat → Int32} (h : okK m F k) (hn : n ≤ m) : okK n F k := fun i hi => h i (by omega)
theorem drR0 : (List.range 3001).all (fun r => decide (r < 100) || (decide (100 ≤ (nI r - (nI r - 1000) / 8).toNatClampNeg) && decide ((nI r - (nI r - 1000) / 8).toNatClampNeg ≤ 3000) && decide (nI r - (nI r - 1000) / 8 = nI (nI r - (nI r - 1000) / 8).toNatClampNeg))) = true := by decide +kernel
theorem drR {r : Nat} (h1 : 100 ≤ r) (h2 : r ≤ 3000) : ∃ y : Nat, 100 ≤ y ∧ y ≤ 3000 ∧ nI r - (nI r - 1000) / 8 = nI y := by
  have h := List.all_eq_true.mp drR0 r (List.mem_range.mpr (by omega))
  simp only [Bool.or_eq_true, Bool.and_eq_true, decide_eq_true_eq] at h
  rcases h with h | ⟨⟨h3, h4⟩, h5⟩
  · omega
  · exact ⟨_, h3, h4, h5⟩
theorem okR_drift {n : Nat} {F : Nat → Nat → Int32} (h : okR n F) : okR n (s_drift n F) := by
  have k : ∀ m, m ≤ n → okR n (s_driftU F m) := by
    intro m
    induction m with
    | zero => intro _; exact h
    | succ m ih =>
      intro hm
      have ih := ih (by omega)
      show okR n (if (3 : Int32) ≤ (s_driftU F m) 4 m then s_driftU F m else s_set (s_driftU F m) m ((s_driftU F m) 1 m - ((s_driftU F m) 1 m - 1000) / 8))
      split
      · exact ih
      · refine okR_set ih ?_
        obtain ⟨r, h1, h2, e⟩ := ih m (by omega)
        rw [e]
        exact drR h1 h2
  exact k n (Nat.le_refl n)
theorem okK_drift {m k n : Nat} {F : Nat → Nat → Int32} (h : okK m F k) : okK m (s_drift n F) k := by
  have q : ∀ u, okK m (s_driftU F u) k := by
    intro u
    induction u with
    | zero => exact h
    | succ u ih =>
      show okK m (if (3 : Int32) ≤ (s_driftU F u) 4 u then s_driftU F u else s_set (s_driftU F u) u ((s_driftU F u) 1 u - ((s_driftU F u) 1 u - 1000) / 8)) k
      split
      · exact ih
      · exact okK_set ih
  exact q n
theorem exch_app (n : Nat) (F : Nat → Nat → Int32) (p : Int32) (j i : Nat) (hj : j ≠ 0) : s_exch n F p j i = F j i := by
  unfold s_exch
  generalize s_at n F p (nI (s_many n F p)) = u
  generalize s_at n F (p + 1) 1 = v
  cases u with
  | none => rfl
  | some a =>
    cases v with
    | none => rfl
    | some b =>
      show (if F 2 a < F 2 b then pu (pu F 0 a (p + 1)) 0 b p else F) j i = F j i
      split
      · simp [pu_app, hj]
      · rfl
theorem endU_app (n : Nat) (F : Nat → Nat → Int32) (m j i : Nat) (hj : j ≠ 0) : (s_endU n F m).1 j i = F j i := by
  induction m with
  | zero => rfl
  | succ m ih =>
    show s_exch n (s_endU n F m).1 (nI m) j i = F j i
    rw [exch_app _ _ _ _ _ hj, ih]
theorem clear_1 (F : Nat → Nat → Int32) (m i : Nat) : s_clearU F m 1 i = F 1 i := by
  induction m with
  | zero => rfl
  | succ m ih =>
    show pu (pu (s_clearU F m) 2 m 0) 4 m 0 1 i = _
    simp [pu_app, ih]
theorem clear_4 (F : Nat → Nat → Int32) (m i : Nat) : s_clearU F m 4 i = 0 ∨ s_clearU F m 4 i = F 4 i := by
  induction m with
  | zero => exact Or.inr rfl
  | succ m ih =>
    show pu (pu (s_clearU F m) 2 m 0) 4 m 0 4 i = 0 ∨ pu (pu (s_clearU F m) 2 m 0) 4 m 0 4 i = _
    by_cases c : i = m
    · left; simp [pu_app, c]
    · simp [pu_app, c]; exact ih
theorem okR_end {n : Nat} {F : Nat → Nat → Int32} (h : okR n F) : okR n (s_clear n (s_endU n (s_drift n F) 2).1) := by
  intro i hi
  show ∃ r : Nat, 100 ≤ r ∧ r ≤ 3000 ∧ s_clearU _ n 1 i = nI r
  rw [clear_1, endU_app _ _ _ _ _ (by decide)]
  exact okR_drift h i hi
theorem okK_end {m n k : Nat} {F : Nat → Nat → Int32} (h : okK m F k) : okK m (s_clear n (s_endU n (s_drift n F) 2).1) k := by
  intro i hi
  rcases clear_4 (s_endU n (s_drift n F) 2).1 n i with e | e
  · exact ⟨0, by omega, e⟩
  · show ∃ x : Nat, x ≤ k ∧ s_clearU _ n 4 i = nI x
    rw [e, endU_app _ _ _ _ _ (by decide)]
    exact okK_drift h i hi
/-- the chances: what stood in the row before is of no account -/
def agR (k : Nat) (r r' : Nat → Int32) : Prop := ∀ j, j ≤ k → r j = r' j
theorem agR_upd {k : Nat} {r r' : Nat → Int32} (h : agR k r r') (j : Nat) {x x' : Int32} (hx : x = x') : agR k (upd r j x) (upd r' j x') := by
  intro i hi
  by_cases e : i = j
  · subst e; rw [pk_us, pk_us, hx]
  · rw [pk_un e, pk_un e, h i hi]
theorem fillU_app (r : Nat → Int32) (m j : Nat) (h : j < m) : s_fillU r m j = 1000000 := by
  induction m with
  | zero => omega
  | succ m ih =>
    show upd (s_fillU r m) m 1000000 j = 1000000
    by_cases e : j = m
    · subst e; exact pk_us
    · rw [pk_un e]; exact ih (by omega)
theorem agR_chI {e : Int32} {k : Nat} {r r' : Nat → Int32} (h : agR k r r') (m : Nat) (hm : m ≤ k + 1) : agR k (s_chI e r m) (s_chI e r' m) := by
  induction m with
  | zero => exact h
  | succ m ih =>
    have ih := ih (by omega)
    show agR k (if 1 ≤ m then upd (s_chI e r m) m ((e * s_chI e r m m + (1000 - e) * s_chI e r m (m - 1)) / 1000) else s_chI e r m) (if 1 ≤ m then upd (s_chI e r' m) m ((e * s_chI e r' m m + (1000 - e) * s_chI e r' m (m - 1)) / 1000) else s_chI e r' m)
    split
    · refine agR_upd ih m ?_
      rw [ih m (by omega), ih (m - 1) (by omega)]
    · exact ih
theorem agR_chU {e : Int32} {k : Nat} {r r' : Nat → Int32} (h : agR k r r') (m : Nat) : agR k (s_chU e k r m) (s_chU e k r' m) := by
  induction m with
  | zero => exact h
  | succ m ih =>
    show agR k (if 1 ≤ m then s_chI e (upd (s_chU e k r m) 0 0) (k + 1) else s_chU e k r m) (if 1 ≤ m then s_chI e (upd (s_chU e k r' m) 0 0) (k + 1) else s_chU e k r' m)
    split
    · exact agR_chI (agR_upd ih 0 rfl) (k + 1) (Nat.le_refl _)
    · exact ih
theorem chR_eq (e : Int32) (k : Nat) (r r' : Nat → Int32) : s_chR e k r k = s_chR e k r' k := by
  have h0 : agR k (s_fillU r (k + 1)) (s_fillU r' (k + 1)) := fun j hj => by rw [fillU_app _ _ _ (by omega), fillU_app _ _ _ (by omega)]
  exact agR_chU h0 (k + 1) k (Nat.le_refl k)
theorem for_eq {n : Nat} (hn : n ≤ 12) (F G G' : Nat → Nat → Int32) (k : Nat) : s_hi n (s_forU n (s_copyU F G n) k) = s_hi n (s_forU n (s_become F G') k) := by
  refine ag_hi (ag_forU hn (fun j i hj hi => ?_) k)
  rw [ag_copy n F G j i hj hi, ag_become hn F G' j i hj hi]
/-- a bout between two that the book holds changes nobody's bounds -/
theorem bout_ok {n : Nat} {a b r : Int32} (hn : n ≤ 12) (h : x_bout n a b r = 0) : cl a ≠ cl b := by
  unfold x_bout at h
  by_cases ha : s_has n a = true
  · rw [if_pos ha] at h
    by_cases hb : s_has n b = true
    · rw [if_pos hb] at h
      by_cases hab : a = b
      · rw [if_pos hab] at h; cases h
      · obtain ⟨x, hx, ex⟩ := s_has_nat hn ha
        obtain ⟨y, hy, ey⟩ := s_has_nat hn hb
        subst ex; subst ey
        rw [cl_nI (by omega), cl_nI (by omega)]
        exact fun q => hab (by rw [q])
    · rw [if_neg hb] at h; cases h
  · rw [if_neg ha] at h; cases h
theorem rate_ok {n : Nat} {a r : Int32} (h : x_rate n a r = 0) : ∃ k : Nat, 100 ≤ k ∧ k ≤ 3000 ∧ r = nI k := by
  unfold x_rate at h
  by_cases ha : s_has n a = true
  · rw [if_pos ha] at h
    by_cases h1 : r < 100
    · rw [if_pos h1] at h; cases h
    · rw [if_neg h1] at h
      by_cases h2 : r ≤ 3000
      · exact rngI h1 h2 rfl rfl (by decide) (by decide)
      · rw [if_neg h2] at h; cases h
  · rw [if_neg ha] at h; cases h
theorem join_ok {n : Nat} {g : Int32} (h : x_join n g = 0) : n < 12 := by
  unfold x_join at h
  by_cases h1 : s_lg g = true
  · rw [if_pos h1] at h
    by_cases h2 : n < 12
    · exact h2
    · rw [if_neg h2] at h; cases h
  · rw [if_neg h1] at h; cases h
/-- the means: two answers that are one number, or both none -/
theorem nan_val (x : UInt64) : isNaN64 x = true ↔ FP.Core.dIsNaN x = true := by
  have h := Jvm.Free.Fl.noNaN64_no (x := x)
  have h2 : isNaN64 x = true ↔ ¬ Jvm.Free.Fl.NoNaN64 x := isNaN64_not
  rw [h2, h, Bool.not_eq_false]
theorem dc_e (x y : UInt64) : FP.dcmp x y = FP.Core.dcmp x y := congrFun (congrFun FP.dcmp_core x) y
theorem nan_cmp {x : UInt64} (y : UInt64) (h : isNaN64 x = true) : FP.dcmp x y = none := by
  rw [dc_e]
  exact (FP.Core.dcmp_none x y).mpr (Or.inl ((FP.Core.dIsNaN_iff x).mp ((nan_val x).mp h)))
theorem nan_self {x : UInt64} (h : isNaN64 x = false) : FP.dcmp x x = some .eq := by
  rw [dc_e]
  refine FP.Core.dcmp_self (fun q => ?_)
  have h2 := (nan_val x).mpr ((FP.Core.dIsNaN_iff x).mpr q)
  rw [h] at h2
  cases h2
theorem cmp_none : ¬ Op.cmpValue none .l = 0 := by decide
theorem cmp_eq0 : Op.cmpValue (some .eq) .l = 0 := rfl
theorem alike_or {x m : UInt64} (h : alike64 x m = true) : x = m ∨ (isNaN64 x = true ∧ isNaN64 m = true) := by
  unfold alike64 at h
  rcases (Bool.or_eq_true _ _).mp h with h | h
  · exact Or.inl (of_decide_eq_true h)
  · exact Or.inr ((Bool.and_eq_true _ _).mp h)
theorem mean_cmp {x y m : UInt64} (hx : alike64 x m = true) (hy : alike64 y m = true) (h : ¬ Op.cmpValue (FP.dcmp x y) .l = 0) : ¬ Op.cmpValue (FP.dcmp x x) .l = 0 ∧ ¬ Op.cmpValue (FP.dcmp y y) .l = 0 := by
  have hx := alike_or hx
  have hy := alike_or hy
  rcases Bool.eq_false_or_eq_true (isNaN64 m) with hm | hm
  · have nx : isNaN64 x = true := by
      rcases hx with e | e
      · rw [e]; exact hm
      · exact e.1
    have ny : isNaN64 y = true := by
      rcases hy with e | e
      · rw [e]; exact hm
      · exact e.1
    rw [nan_cmp x nx, nan_cmp y ny]
    exact ⟨cmp_none, cmp_none⟩
  · have ex : x = m := by
      rcases hx with e | e
      · exact e
      · rw [hm] at e; exact Bool.noConfusion e.2
    have ey : y = m := by
      rcases hy with e | e
      · exact e
      · rw [hm] at e; exact Bool.noConfusion e.2
    rw [ex, ey, nan_self hm] at h
    exact absurd cmp_eq0 h
