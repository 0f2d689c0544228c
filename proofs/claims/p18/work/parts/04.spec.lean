/-! What the methods answer, as pure functions of the state (n wrestlers, F the rows). -/
def s_wt (F : Nat → Nat → Int32) (w : Nat) : Int32 := if (10 : Int32) ≤ F 3 w then (if F 1 w < 2000 then 20 else 10) else 40
def ahead (F : Nat → Nat → Int32) (a b : Nat) : Bool := if F 2 a = F 2 b then (if F 1 a = F 1 b then decide (a < b) else decide (¬ F 1 a ≤ F 1 b)) else decide (¬ F 2 a ≤ F 2 b)
def s_manyU (F : Nat → Nat → Int32) (p : Int32) (m : Nat) : Nat := fo (fun k a => if F 0 k = p then a + 1 else a) 0 m
def s_many (n : Nat) (F : Nat → Nat → Int32) (p : Int32) : Nat := s_manyU F p n
def s_has (n : Nat) (p : Int32) : Bool := if p < 0 then false else (if nI n ≤ p then false else true)
def s_placeU (F : Nat → Nat → Int32) (w m : Nat) : Nat := fo (fun k a => if F 0 k = F 0 w ∧ ahead F k w = true then a + 1 else a) 1 m
def s_place (n : Nat) (F : Nat → Nat → Int32) (w : Nat) : Nat := s_placeU F w n
def s_atU (n : Nat) (F : Nat → Nat → Int32) (p q : Int32) (m : Nat) : Option Nat := fo (fun k a => match a with | some b => some b | none => if F 0 k = p ∧ nI (s_place n F k) = q then some k else none) none m
def s_at (n : Nat) (F : Nat → Nat → Int32) (p q : Int32) : Option Nat := s_atU n F p q n
def s_hiU (F : Nat → Nat → Int32) (m : Nat) : Int32 := fo (fun k a => if a < F 1 k then F 1 k else a) 0 m
def s_hi (n : Nat) (F : Nat → Nat → Int32) : Int32 := s_hiU F n
def s_loU (F : Nat → Nat → Int32) (z : Int32) (m : Nat) : Int32 := fo (fun k a => if F 1 k < a then F 1 k else a) z m
def s_lo (n : Nat) (F : Nat → Nat → Int32) : Int32 := s_loU F (if n = 0 then 0 else 3000) n
def s_sumU (F : Nat → Nat → Int32) (m : Nat) : Int32 := fo (fun k a => a + F 1 k) 0 m
def s_sum (n : Nat) (F : Nat → Nat → Int32) : Int32 := s_sumU F n
/-- the table's number at a difference d of whole numbers -/
def exN (m : Nat) : Int32 := if m = 800 then tb (m / 100) else tb (m / 100) + (tb (m / 100 + 1) - tb (m / 100)) * nI (m % 100) / 100
def mD (d : Nat) : Nat := if 800 < d then 800 else d
theorem mD_le (d : Nat) : mD d ≤ 800 := by unfold mD; split <;> omega
theorem mD_min {d : Nat} (hd : d ≤ 2900) : (if (800 : Int32) < nI d then (800 : Int32) else nI d) = nI (mD d) := by
  unfold mD
  show (if nI 800 < nI d then nI 800 else nI d) = _
  by_cases h : 800 < d
  · rw [if_pos h, if_pos ((nI_ltI (a := 800) (by omega) (by omega)).mpr h)]
  · rw [if_neg h, if_neg (fun q => h ((nI_ltI (a := 800) (by omega) (by omega)).mp q))]
def s_eoh (d : Nat) : Int32 := exN (mD d)
/-- the difference of two ratings as a number -/
def dN (x y : Int32) : Nat := (x - y).toNatClampNeg
def s_exp (F : Nat → Nat → Int32) (a b : Nat) : Int32 := if F 1 b ≤ F 1 a then s_eoh (dN (F 1 a) (F 1 b)) else 1000 - s_eoh (dN (F 1 b) (F 1 a))
def absI (x : Int32) : Int32 := if 0 ≤ x then x else 0 - x
def s_off (F : Nat → Nat → Int32) (a b : Nat) : Int32 := absI (s_exp F a b - 500)
def maxI (x y : Int32) : Int32 := if x < y then y else x
def minI (x y : Int32) : Int32 := if y < x then y else x
/-- what a rating would be behind a bout of which sc is the result (in thousandths) -/
def s_then (F : Nat → Nat → Int32) (w o : Nat) (sc : Int32) : Int32 := maxI 100 (minI 3000 (F 1 w + s_wt F w * (sc - s_exp F w o) / 1000))
def s_gain (F : Nat → Nat → Int32) (w o : Nat) (res : Int32) : Int32 := s_then F w o (res * 500) - F 1 w
def s_set (F : Nat → Nat → Int32) (w : Nat) (x : Int32) : Nat → Nat → Int32 := pu (pu F 1 w x) 6 w (maxI (F 6 w) x)
/-- all ratings of the n wrestlers are from 100 to 3000 -/
def okR (n : Nat) (F : Nat → Nat → Int32) : Prop := ∀ i, i < n → ∃ r : Nat, 100 ≤ r ∧ r ≤ 3000 ∧ F 1 i = nI r
theorem okR.le {n : Nat} {F : Nat → Nat → Int32} (h : okR n F) {a b : Nat} (ha : a < n) (hb : b < n) (hle : F 1 b ≤ F 1 a) : dN (F 1 a) (F 1 b) ≤ 2900 ∧ F 1 a - F 1 b = nI (dN (F 1 a) (F 1 b)) := by
  obtain ⟨x, x1, x2, ex⟩ := h a ha
  obtain ⟨y, y1, y2, ey⟩ := h b hb
  rw [ex, ey] at hle
  have hxy : y ≤ x := (nI_leI (by omega) (by omega)).mp hle
  have e : F 1 a - F 1 b = nI (x - y) := by rw [ex, ey, pk_sub hxy]
  have e2 : dN (F 1 a) (F 1 b) = x - y := by unfold dN; rw [e, nI_clamp (by omega)]
  rw [e2, e]
  exact ⟨by omega, rfl⟩
theorem i32_le_of_not {x y : Int32} (h : ¬ x ≤ y) : y ≤ x := by
  rcases Int32.le_total x y with q | q
  · exact absurd q h
  · exact q
theorem i32_lt_iff {x y : Int32} : x < y ↔ ¬ y ≤ x := Int32.not_le.symm
theorem vaP_nil {D : va_G} {cl : List vw_C} {H : Heap} : va_P D cl [] H := fun k q h9 => by simp at h9
theorem s_at_keep {n : Nat} {F : Nat → Nat → Int32} {p q : Int32} {k : Nat} : ∀ (d m : Nat), s_atU n F p q m = some k → s_atU n F p q (m + d) = some k
  | 0, _, h => h
  | d + 1, m, h => by
    have h2 := s_at_keep d m h
    show (match s_atU n F p q (m + d) with | some b => some b | none => if F 0 (m + d) = p ∧ nI (s_place n F (m + d)) = q then some (m + d) else none) = some k
    rw [h2]
theorem s_at_hit {n : Nat} {F : Nat → Nat → Int32} {p q : Int32} {i : Nat} (h : s_atU n F p q i = none) (hi : i < n) (h1 : F 0 i = p) (h2 : nI (s_place n F i) = q) : s_at n F p q = some i := by
  have h3 : s_atU n F p q (i + 1) = some i := by
    show (match s_atU n F p q i with | some b => some b | none => if F 0 i = p ∧ nI (s_place n F i) = q then some i else none) = some i
    rw [h]
    exact if_pos ⟨h1, h2⟩
  have h4 := s_at_keep (n - (i + 1)) (i + 1) h3
  rw [show i + 1 + (n - (i + 1)) = n by omega] at h4
  exact h4
theorem s_at_none {n : Nat} {F : Nat → Nat → Int32} {p q : Int32} {i : Nat} (e : i = n) (h : s_atU n F p q i = none) : s_at n F p q = none := by rw [e] at h; exact h
theorem s_at_lt {n : Nat} {F : Nat → Nat → Int32} {p q : Int32} : ∀ (m k : Nat), s_atU n F p q m = some k → k < m ∧ F 0 k = p ∧ nI (s_place n F k) = q
  | 0, _, h => by cases h
  | m + 1, k, h => by
    have h' : (match s_atU n F p q m with | some b => some b | none => if F 0 m = p ∧ nI (s_place n F m) = q then some m else none) = some k := h
    cases h2 : s_atU n F p q m with
    | some b =>
      rw [h2] at h'
      cases h'
      obtain ⟨a, b, c⟩ := s_at_lt m k h2
      exact ⟨by omega, b, c⟩
    | none =>
      rw [h2] at h'
      by_cases hc : F 0 m = p ∧ nI (s_place n F m) = q
      · have h3 : (if F 0 m = p ∧ nI (s_place n F m) = q then some m else none) = some k := h'
        rw [if_pos hc] at h3
        cases h3
        exact ⟨by omega, hc.1, hc.2⟩
      · have h3 : (if F 0 m = p ∧ nI (s_place n F m) = q then some m else none) = some k := h'
        rw [if_neg hc] at h3
        cases h3
