/-! What the methods answer, as pure functions of the state (n wrestlers, F the rows). -/
def s_wt (F : Nat → Nat → Int32) (w : Nat) : Int32 := if (10 : Int32) ≤ F 3 w then (if F 1 w < 2000 then 20 else 10) else 40
def ahead (F : Nat → Nat → Int32) (a b : Nat) : Bool := if F 2 a = F 2 b then (if F 1 a = F 1 b then decide (a < b) else decide (¬ F 1 a ≤ F 1 b)) else decide (¬ F 2 a ≤ F 2 b)
def s_many (n : Nat) (F : Nat → Nat → Int32) (p : Int32) : Nat := fo (fun k a => if F 0 k = p then a + 1 else a) 0 n
def s_placeU (F : Nat → Nat → Int32) (w m : Nat) : Nat := fo (fun k a => if F 0 k = F 0 w ∧ ahead F k w = true then a + 1 else a) 1 m
def s_place (n : Nat) (F : Nat → Nat → Int32) (w : Nat) : Nat := s_placeU F w n
def s_atU (n : Nat) (F : Nat → Nat → Int32) (p q : Int32) (m : Nat) : Option Nat := fo (fun k a => match a with | some b => some b | none => if F 0 k = p ∧ nI (s_place n F k) = q then some k else none) none m
def s_at (n : Nat) (F : Nat → Nat → Int32) (p q : Int32) : Option Nat := s_atU n F p q n
def s_hi (n : Nat) (F : Nat → Nat → Int32) : Int32 := fo (fun k a => if a < F 1 k then F 1 k else a) 0 n
def s_lo (n : Nat) (F : Nat → Nat → Int32) : Int32 := fo (fun k a => if F 1 k < a then F 1 k else a) (if n = 0 then 0 else 3000) n
def s_sum (n : Nat) (F : Nat → Nat → Int32) : Int32 := fo (fun k a => a + F 1 k) 0 n
/-- the table's number at a difference d of whole numbers -/
def exN (d : Nat) : Nat → Int32 := fun m => if m = 800 then tb (m / 100) else tb (m / 100) + (tb (m / 100 + 1) - tb (m / 100)) * nI (m % 100) / 100
def s_eoh (d : Nat) : Int32 := exN d (if 800 < d then 800 else d)
/-- the difference of two ratings as a number -/
def dN (x y : Int32) : Nat := (x - y).toNatClampNeg
def s_exp (F : Nat → Nat → Int32) (a b : Nat) : Int32 := if F 1 b ≤ F 1 a then s_eoh (dN (F 1 a) (F 1 b)) else 1000 - s_eoh (dN (F 1 b) (F 1 a))
def absI (x : Int32) : Int32 := if 0 ≤ x then x else 0 - x
def s_off (F : Nat → Nat → Int32) (a b : Nat) : Int32 := absI (s_exp F a b - 500)
def maxI (x y : Int32) : Int32 := if x < y then y else x
def minI (x y : Int32) : Int32 := if y < x then y else x
/-- what a rating would be behind a bout of which sc is the result (in thousandths) -/
def s_then (F : Nat → Nat → Int32) (w o : Nat) (sc : Int32) : Int32 := maxI 100 (minI 3000 (F 1 w + s_wt F w * (sc - s_exp F w o) / 1000))
def s_gain (F : Nat → Nat → Int32) (w o : Nat) (res : Int32) : Int32 := s_then F w o (res * 500) - F 1 w
def s_set (F : Nat → Nat → Int32) (w : Nat) (x : Int32) : Nat → Nat → Int32 := pu (pu F 1 w x) 6 w (maxI (F 6 w) x)
/-- all ratings of the n wrestlers are from 100 to 3000 -/
def okR (n : Nat) (F : Nat → Nat → Int32) : Prop := ∀ i, i < n → ∃ r : Nat, 100 ≤ r ∧ r ≤ 3000 ∧ F 1 i = nI r
theorem okR.le {n : Nat} {F : Nat → Nat → Int32} (h : okR n F) {a b : Nat} (ha : a < n) (hb : b < n) (hle : F 1 b ≤ F 1 a) : dN (F 1 a) (F 1 b) ≤ 2900 ∧ F 1 a - F 1 b = nI (dN (F 1 a) (F 1 b)) := by
  obtain ⟨x, x1, x2, ex⟩ := h a ha
  obtain ⟨y, y1, y2, ey⟩ := h b hb
  rw [ex, ey] at hle
  have hxy : y ≤ x := (nI_leI (by omega) (by omega)).mp hle
  have e : F 1 a - F 1 b = nI (x - y) := by rw [ex, ey, pk_sub hxy]
  have e2 : dN (F 1 a) (F 1 b) = x - y := by unfold dN; rw [e, nI_clamp (by omega)]
  rw [e2, e]
  exact ⟨by omega, rfl⟩
theorem i32_le_of_not {x y : Int32} (h : ¬ x ≤ y) : y ≤ x := by
  rcases Int32.le_total x y with q | q
  · exact absurd q h
  · exact q
theorem i32_lt_iff {x y : Int32} : x < y ↔ ¬ y ≤ x := Int32.not_le.symm
