/-! WrestleBook and its reference: cells, and what their calls answer. -/
abbrev wB (h r1 : Nat) (d1 : Nat → Nat) (r2 : Nat) (d2 : Nat → Nat) (rc : Nat) (cI : ClassId) (n : Nat) (F : Nat → Nat → Int32) (n2 : Nat) (G : Nat → Nat → Int32) (ct ch : Nat → Int32) : va_W := (h, .inr (1, [.ref r1, .ref r2, .ref rc, .int (ct 0), .int (ct 1), .int (ct 2)])) :: (rc, .inl (cI, 10, .inl ch)) :: (wR r1 d1 cI n F ++ wR r2 d2 cI n2 G)
/-- the exception by its place in the order of catching (1 the first one) -/
def exE (es : List String) (k : Nat) (E : String) : Prop := 0 < k ∧ es[k - 1]? = some E
theorem PRX.blind {dC : Nat → ClassId} {dI : Nat → Nat → Nat} {cI : ClassId} {ws : va_W} {H0 : Heap} {av : List Value} : FrameBlind (va_Pc av (fun U => U.heap = H0 ∧ PR dC dI cI ws U)) := fun a U g mk q => ⟨q.1, q.2.1, (PR.blind (av := av) a U g mk ⟨q.1, q.2.2⟩).2⟩
def cl (x : Int32) : Nat := x.toNatClampNeg
theorem cl_nI {k : Nat} (h : k < 2 ^ 31) : cl (nI k) = k := nI_clamp h
theorem s_has_nat {n : Nat} {x : Int32} (hn : n ≤ 12) (h : s_has n x = true) : ∃ w, w < n ∧ x = nI w := by
  unfold s_has at h
  by_cases h0 : x < 0
  · rw [if_pos h0] at h; cases h
  · rw [if_neg h0] at h
    by_cases h1 : nI n ≤ x
    · rw [if_pos h1] at h; cases h
    · obtain ⟨j, j1, rfl⟩ := nI_of h0
      exact ⟨j, Nat.lt_of_not_le (fun q => h1 ((nI_leI (by omega) j1).mpr q)), rfl⟩
theorem s_has_nI {n w : Nat} (hn : n ≤ 12) (h : w < n) : s_has n (nI w) = true := by
  unfold s_has
  rw [if_neg (nI_pos (by omega)), if_neg (fun q => absurd ((nI_leI (by omega) (by omega)).mp q) (by omega))]
def s_lg (x : Int32) : Bool := if x < 0 then false else if 3 ≤ x then false else true
def s_08 (x : Int32) : Bool := decide (0 ≤ x.toInt) && decide (x.toInt ≤ 8)
def x_cw (n : Nat) (a : Int32) : Nat := if s_has n a = true then 0 else 1
def x_cd (a b : Int32) : Nat := if a = b then 1 else 0
def x_cr (r : Int32) : Nat := if r < 0 then 1 else if r ≤ 2 then 0 else 1
def x_join (n : Nat) (g : Int32) : Nat := if s_lg g = true then (if n < 12 then 0 else 2) else 1
def x_rate (n : Nat) (a r : Int32) : Nat := if s_has n a = true then (if r < 100 then 2 else if r ≤ 3000 then 0 else 2) else 1
def x_bout (n : Nat) (a b r : Int32) : Nat := if s_has n a = true then (if s_has n b = true then (if a = b then 2 else if x_cr r = 0 then 0 else 2) else 1) else 1
def x_exp (n : Nat) (a b : Int32) : Nat := if s_has n a = true then (if s_has n b = true then 0 else 1) else 1
def x_told (n : Nat) (a k : Int32) : Nat := if s_has n a = true then (if s_08 k = true then 0 else 1) else 1
def x_at (n : Nat) (F : Nat → Nat → Int32) (g q : Int32) : Nat := if s_lg g = true then (if s_at n F g q = none then 1 else 0) else 1
def x_cnt (k : Int32) : Nat := if s_08 k = true then 0 else 1
def x_would (n : Nat) (a b r u : Int32) : Nat := if s_has n a = true then (if s_has n b = true then (if u = 0 ∨ u = 1 then (if a = b then 2 else if x_cr r = 0 then 0 else 2) else 1) else 1) else 1
def x_chance (n : Nat) (a b k : Int32) : Nat := if s_has n a = true then (if s_has n b = true then (if a = b then 2 else if k < 1 then 2 else if k ≤ 9 then 0 else 2) else 1) else 1
def x_for (k : Int32) : Nat := if k < 1 then 1 else if k ≤ 40 then 0 else 1
def s_told (n : Nat) (F : Nat → Nat → Int32) (w : Nat) (k : Int32) : Int32 := if k = 0 then F 1 w else if k = 1 then F 0 w else if k = 2 then F 2 w else if k = 3 then F 3 w else if k = 4 then F 4 w else if k = 5 then F 5 w else if k = 6 then F 6 w else if k = 7 then nI (s_place n F w) else s_wt F w
def s_cnt (n : Nat) (F : Nat → Nat → Int32) (ct : Nat → Int32) (k : Int32) : Int32 := if k = 0 then ct 0 else if k = 1 then nI n else if k = 2 then ct 1 else if k = 3 then ct 2 else if k = 7 then s_hi n F else if k = 8 then s_lo n F else nI (s_many n F (k - 4))
theorem exE_cw {n : Nat} {a : Int32} {E : String} (h : exE ["java/lang/IndexOutOfBoundsException"] (x_cw n a) E) : s_has n a = false ∧ E = "java/lang/IndexOutOfBoundsException" := by
  unfold exE x_cw at h
  by_cases c : s_has n a = true
  · rw [if_pos c] at h; exact absurd h.1 (by decide)
  · rw [if_neg c] at h
    refine ⟨?_, ?_⟩
    · cases hh : s_has n a with
      | false => rfl
      | true => exact absurd hh c
    · have := h.2; simp at this; exact this.symm
theorem ok_cw {n : Nat} {a : Int32} (h : x_cw n a = 0) : s_has n a = true := by
  unfold x_cw at h
  by_cases c : s_has n a = true
  · exact c
  · rw [if_neg c] at h; cases h
theorem exE_cd {a b : Int32} {E : String} (h : exE ["java/lang/IllegalArgumentException"] (x_cd a b) E) : a = b ∧ E = "java/lang/IllegalArgumentException" := by
  unfold exE x_cd at h
  by_cases c : a = b
  · rw [if_pos c] at h; have := h.2; simp at this; exact ⟨c, this.symm⟩
  · rw [if_neg c] at h; exact absurd h.1 (by decide)
theorem ok_cd {a b : Int32} (h : x_cd a b = 0) : ¬ a = b := by
  unfold x_cd at h
  intro c
  rw [if_pos c] at h; cases h
theorem exE_cr {r : Int32} {E : String} (h : exE ["java/lang/IllegalArgumentException"] (x_cr r) E) : ¬ x_cr r = 0 ∧ E = "java/lang/IllegalArgumentException" := by
  refine ⟨fun q => ?_, ?_⟩
  · rw [q] at h; exact absurd h.1 (by decide)
  · have h1 : x_cr r = 0 ∨ x_cr r = 1 := by unfold x_cr; split <;> first | exact Or.inr rfl | (split <;> first | exact Or.inl rfl | exact Or.inr rfl)
    rcases h1 with q | q
    · rw [q] at h; exact absurd h.1 (by decide)
    · rw [q] at h; have := h.2; simp at this; exact this.symm
theorem ok_cr {r : Int32} (h : x_cr r = 0) : ∃ q : Nat, q ≤ 2 ∧ r = nI q := by
  unfold x_cr at h
  by_cases c : r < 0
  · rw [if_pos c] at h; cases h
  · rw [if_neg c] at h
    by_cases c2 : r ≤ 2
    · exact nI_of2 (n := 2) (by decide) c c2
    · rw [if_neg c2] at h; cases h
theorem sw9 (x : Int32) : x = 0 ∨ x = 1 ∨ x = 2 ∨ x = 3 ∨ x = 4 ∨ x = 5 ∨ x = 6 ∨ x = 7 ∨ x = 8 ∨ (x.toInt < 0 ∨ 8 < x.toInt) := by
  by_cases h1 : x.toInt < 0
  · simp [h1]
  · by_cases h2 : 8 < x.toInt
    · simp [h2]
    · have h3 : x.toInt = 0 ∨ x.toInt = 1 ∨ x.toInt = 2 ∨ x.toInt = 3 ∨ x.toInt = 4 ∨ x.toInt = 5 ∨ x.toInt = 6 ∨ x.toInt = 7 ∨ x.toInt = 8 := by omega
      rcases h3 with h | h | h | h | h | h | h | h | h
      · exact Or.inl (Int32.toInt_inj.mp h)
      · exact Or.inr (Or.inl (Int32.toInt_inj.mp h))
      · exact Or.inr (Or.inr (Or.inl (Int32.toInt_inj.mp h)))
      · exact Or.inr (Or.inr (Or.inr (Or.inl (Int32.toInt_inj.mp h))))
      · exact Or.inr (Or.inr (Or.inr (Or.inr (Or.inl (Int32.toInt_inj.mp h)))))
      · exact Or.inr (Or.inr (Or.inr (Or.inr (Or.inr (Or.inl (Int32.toInt_inj.mp h))))))
      · exact Or.inr (Or.inr (Or.inr (Or.inr (Or.inr (Or.inr (Or.inl (Int32.toInt_inj.mp h)))))))
      · exact Or.inr (Or.inr (Or.inr (Or.inr (Or.inr (Or.inr (Or.inr (Or.inl (Int32.toInt_inj.mp h))))))))
      · exact Or.inr (Or.inr (Or.inr (Or.inr (Or.inr (Or.inr (Or.inr (Or.inr (Or.inl (Int32.toInt_inj.mp h)))))))))
theorem s_08_out {x : Int32} (h : x.toInt < 0 ∨ 8 < x.toInt) : s_08 x = false := by
  unfold s_08
  rcases h with h | h
  · rw [decide_eq_false (by omega)]; rfl
  · rw [show decide (x.toInt ≤ 8) = false from decide_eq_false (by omega), Bool.and_false]
theorem tgIAE : ∀ w ∈ Cond.classLink RX1 27 "java/lang/IllegalArgumentException" :: Cond.initialized "java/lang/IllegalArgumentException" :: vx_atS RX1 31 "java/lang/IllegalArgumentException" ["java/lang/RuntimeException", "java/lang/Exception"], vx_ot w = true := by decide +kernel
theorem tgISE : ∀ w ∈ Cond.classLink RX1 38 "java/lang/IllegalStateException" :: Cond.initialized "java/lang/IllegalStateException" :: vx_atS RX1 42 "java/lang/IllegalStateException" ["java/lang/RuntimeException", "java/lang/Exception"], vx_ot w = true := by decide +kernel
theorem tgIOB : ∀ w ∈ Cond.classLink RX1 121 "java/lang/IndexOutOfBoundsException" :: Cond.initialized "java/lang/IndexOutOfBoundsException" :: vx_atS RX1 125 "java/lang/IndexOutOfBoundsException" ["java/lang/RuntimeException", "java/lang/Exception"], vx_ot w = true := by decide +kernel
theorem tnIAE : ∀ w ∈ (vx_atS RX1 31 "java/lang/IllegalArgumentException" ["java/lang/RuntimeException", "java/lang/Exception"]).filter (fun w => !goodWord w), w ∈ [Cond.castable "java/lang/IllegalArgumentException" "java/lang/IllegalArgumentException", .declares (Bundle.initS "java/lang/RuntimeException"), .declares (Bundle.initS "java/lang/Exception"), .declares (Bundle.initS Bundle.tN)] := by decide +kernel
theorem tnISE : ∀ w ∈ (vx_atS RX1 42 "java/lang/IllegalStateException" ["java/lang/RuntimeException", "java/lang/Exception"]).filter (fun w => !goodWord w), w ∈ [Cond.castable "java/lang/IllegalStateException" "java/lang/IllegalStateException", .declares (Bundle.initS "java/lang/RuntimeException"), .declares (Bundle.initS "java/lang/Exception"), .declares (Bundle.initS Bundle.tN)] := by decide +kernel
theorem tnIOB : ∀ w ∈ (vx_atS RX1 125 "java/lang/IndexOutOfBoundsException" ["java/lang/RuntimeException", "java/lang/Exception"]).filter (fun w => !goodWord w), w ∈ [Cond.castable "java/lang/IndexOutOfBoundsException" "java/lang/IndexOutOfBoundsException", .declares (Bundle.initS "java/lang/RuntimeException"), .declares (Bundle.initS "java/lang/Exception"), .declares (Bundle.initS Bundle.tN)] := by decide +kernel
