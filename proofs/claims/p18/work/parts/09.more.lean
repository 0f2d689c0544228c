/-! Pure facts beside part 08. -/
theorem ab12 (a b : Nat) : (12 : Int32) * nI a + nI b = nI a * 12 + nI b := by rw [Int32.mul_comm]
theorem s_endU_s (n : Nat) (F : Nat → Nat → Int32) (m : Nat) : s_endU n F (m + 1) = (s_exch n (s_endU n F m).1 (nI m), if s_exchB n (s_endU n F m).1 (nI m) = true then (s_endU n F m).2 + 1 else (s_endU n F m).2) := rfl
theorem s_upE {F : Nat → Nat → Int32} {a b q : Nat} (h : q = 1) : s_up F a b (nI q) = false := by subst h; rfl
