/-! Pure facts for the reference's methods. -/
def dA (F : Nat → Nat → Int32) (a b : Nat) : Nat := if F 1 b ≤ F 1 a then dN (F 1 a) (F 1 b) else dN (F 1 b) (F 1 a)
theorem okR.abs {n : Nat} {F : Nat → Nat → Int32} (h : okR n F) {a b : Nat} (ha : a < n) (hb : b < n) : absI (F 1 a - F 1 b) = nI (dA F a b) ∧ dA F a b ≤ 2900 := by
  obtain ⟨x, x1, x2, ex⟩ := h a ha
  obtain ⟨y, y1, y2, ey⟩ := h b hb
  by_cases hc : F 1 b ≤ F 1 a
  · obtain ⟨h1, h2⟩ := h.le ha hb hc
    unfold dA absI
    rw [if_pos hc, h2, if_pos (nI_pos' (by omega))]
    exact ⟨rfl, h1⟩
  · have hc2 := i32_le_of_not hc
    obtain ⟨h1, h2⟩ := h.le hb ha hc2
    unfold dA absI
    rw [if_neg hc]
    have e0 : F 1 a - F 1 b < 0 := by
      rw [ex, ey]
      refine pk_sneg (by omega) ?_
      rw [ex, ey] at hc
      exact Nat.lt_of_not_le (fun q => hc ((nI_leI (by omega) (by omega)).mpr q))
    rw [if_neg (Int32.not_le.mpr e0)]
    rw [show (0 : Int32) - (F 1 a - F 1 b) = F 1 b - F 1 a from by rw [Int32.zero_sub, Int32.neg_sub]]
    exact ⟨h2, h1⟩
theorem mD_min2 {d : Nat} (hd : d ≤ 2900) : (if nI d < (800 : Int32) then nI d else (800 : Int32)) = nI (mD d) := by
  unfold mD
  show (if nI d < nI 800 then nI d else nI 800) = _
  by_cases h : d < 800
  · rw [if_pos ((nI_ltI (by omega) (by omega)).mpr h), if_neg (by omega)]
  · rw [if_neg (fun q => h ((nI_ltI (by omega) (by omega)).mp q))]
    by_cases h2 : 800 < d
    · rw [if_pos h2]
    · rw [if_neg h2, show d = 800 by omega]
theorem s_exp_ge {F : Nat → Nat → Int32} {a b : Nat} (h : F 1 b ≤ F 1 a) : s_exp F a b = exN (mD (dA F a b)) := by
  unfold s_exp dA s_eoh
  rw [if_pos h, if_pos h]
theorem s_exp_lt {F : Nat → Nat → Int32} {a b : Nat} (h : ¬ F 1 b ≤ F 1 a) : s_exp F a b = 1000 - exN (mD (dA F a b)) := by
  unfold s_exp dA s_eoh
  rw [if_neg h, if_neg h]
theorem ahead_self (F : Nat → Nat → Int32) (w : Nat) : ahead F w w = false := by simp [ahead]
theorem n500_div {q : Nat} (hq : q ≤ 2) : nI (500 * q) / 500 = nI q := by
  rw [show (500 : Int32) = nI 500 from rfl, pk_div (by omega) (by decide) (by decide), Nat.mul_div_cancel_left q (by decide)]
theorem n500_sub {q : Nat} (hq : q ≤ 2) : (1000 : Int32) - nI (500 * q) = nI (500 * (2 - q)) := by
  rw [show (1000 : Int32) = nI 1000 from rfl, pk_sub (by omega)]
  congr 1
  omega
theorem note_comm (F : Nat → Nat → Int32) (w q : Nat) : pu (pu (pu (pu F 3 w (F 3 w + 1)) 4 w (F 4 w + 1)) 2 w (F 2 w + nI q)) 5 w (if q = 2 then F 5 w + 1 else 0) = s_note F w q := by
  funext a j
  simp only [s_note, pu_app]
  by_cases h5 : a = 5 ∧ j = w
  · rw [if_pos h5, if_pos h5]
  · rw [if_neg h5, if_neg h5]
    by_cases h4 : a = 4 ∧ j = w
    · rw [if_neg (fun q => by omega), if_pos h4, if_pos h4]
    · rw [if_neg h4, if_neg h4]
      by_cases h3 : a = 3 ∧ j = w
      · rw [if_neg (fun q => by omega), if_pos h3, if_pos h3]
      · rw [if_neg h3, if_neg h3]
def s_mb (F : Nat → Nat → Int32) (a b q : Nat) : Nat → Nat → Int32 := s_note (s_note (s_set (s_set F a (s_then F a b (nI (500 * q)))) b (s_then F b a (nI (500 * (2 - q))))) a q) b (2 - q)
def s_ct (ct : Nat → Int32) (F : Nat → Nat → Int32) (a b q : Nat) : Nat → Int32 := upd (upd ct 2 (ct 2 + bI (s_up F a b (nI q)))) 1 (ct 1 + 1)
theorem upd_0 (f : Nat → Int32) (k : Nat) : upd f k (f k + 0) = f := by
  funext j
  by_cases h : j = k
  · subst h; rw [pk_us, Int32.add_zero]
  · rw [pk_un h]
/-- bouts of the season stay small -/
def okB (n : Nat) (F : Nat → Nat → Int32) : Prop := ∀ i, i < n → ∃ k : Nat, k ≤ 100000 ∧ F 4 i = nI k
theorem absI_neg {k : Nat} (hk : k < 2 ^ 31) : absI (-(nI k)) = nI k := by
  unfold absI
  by_cases h0 : k = 0
  · subst h0; rfl
  · have e : ¬ (0 : Int32) ≤ -(nI k) := by
      intro q
      have q2 := Int32.le_iff_toInt_le.mp q
      rw [sb_negT hk] at q2
      have z : (0 : Int32).toInt = 0 := rfl
      rw [z] at q2
      omega
    rw [if_neg e, Int32.zero_sub, Int32.neg_neg]
theorem tbN (k : Nat) : ∃ x : Nat, 500 ≤ x ∧ x ≤ 990 ∧ tb k = nI x := by
  match k with
  | 0 => exact ⟨500, by decide, by decide, rfl⟩
  | 1 => exact ⟨640, by decide, by decide, rfl⟩
  | 2 => exact ⟨760, by decide, by decide, rfl⟩
  | 3 => exact ⟨849, by decide, by decide, rfl⟩
  | 4 => exact ⟨909, by decide, by decide, rfl⟩
  | 5 => exact ⟨947, by decide, by decide, rfl⟩
  | 6 => exact ⟨969, by decide, by decide, rfl⟩
  | 7 => exact ⟨983, by decide, by decide, rfl⟩
  | k + 8 => exact ⟨990, by decide, by decide, rfl⟩
/-- the steps of the table -/
theorem tbS : ∀ k, k < 8 → ∃ x y : Nat, 500 ≤ x ∧ x ≤ y ∧ y ≤ 990 ∧ tb k = nI x ∧ tb (k + 1) = nI y := by
  intro k hk
  match k, hk with
  | 0, _ => exact ⟨500, 640, by decide, by decide, by decide, rfl, rfl⟩
  | 1, _ => exact ⟨640, 760, by decide, by decide, by decide, rfl, rfl⟩
  | 2, _ => exact ⟨760, 849, by decide, by decide, by decide, rfl, rfl⟩
  | 3, _ => exact ⟨849, 909, by decide, by decide, by decide, rfl, rfl⟩
  | 4, _ => exact ⟨909, 947, by decide, by decide, by decide, rfl, rfl⟩
  | 5, _ => exact ⟨947, 969, by decide, by decide, by decide, rfl, rfl⟩
  | 6, _ => exact ⟨969, 983, by decide, by decide, by decide, rfl, rfl⟩
  | 7, _ => exact ⟨983, 990, by decide, by decide, by decide, rfl, rfl⟩
/-- what is expected of the higher one, 500 to 990 -/
theorem exNN {m : Nat} (hm : m ≤ 800) : ∃ x : Nat, 500 ≤ x ∧ x ≤ 990 ∧ exN m = nI x := by
  unfold exN
  by_cases h : m = 800
  · rw [if_pos h]
    exact tbN _
  · rw [if_neg h]
    obtain ⟨x, y, h1, h2, h3, e1, e2⟩ := tbS (m / 100) (by omega)
    rw [e1, e2, pk_sub h2, pk_mul, show (100 : Int32) = nI 100 from rfl, pk_div (Nat.lt_of_le_of_lt (Nat.mul_le_mul (show y - x ≤ 490 by omega) (show m % 100 ≤ 99 by omega)) (by decide)) (by decide) (by decide), nI_add]
    have h4 : (y - x) * (m % 100) / 100 ≤ y - x := by
      refine Nat.div_le_of_le_mul ?_
      rw [Nat.mul_comm 100]
      exact Nat.mul_le_mul (Nat.le_refl _) (by omega)
    exact ⟨_, by omega, by omega, rfl⟩
theorem dA_comm {n : Nat} {F : Nat → Nat → Int32} (h : okR n F) {a b : Nat} (ha : a < n) (hb : b < n) : dA F a b = dA F b a := by
  unfold dA
  by_cases h1 : F 1 b ≤ F 1 a
  · rw [if_pos h1]
    by_cases h2 : F 1 a ≤ F 1 b
    · rw [if_pos h2]
      obtain ⟨x, x1, x2, ex⟩ := h a ha
      obtain ⟨y, y1, y2, ey⟩ := h b hb
      rw [ex, ey] at h1 h2
      have e1 := (nI_leI (by omega) (by omega)).mp h1
      have e2 := (nI_leI (by omega) (by omega)).mp h2
      rw [ex, ey, show x = y by omega]
    · rw [if_neg h2]
  · rw [if_neg h1, if_pos (i32_le_of_not h1)]
/-- what is expected as a number, and its distance from 500 -/
theorem s_offN {n : Nat} {F : Nat → Nat → Int32} (h : okR n F) {a b : Nat} (ha : a < n) (hb : b < n) : ∃ x : Nat, 500 ≤ x ∧ x ≤ 990 ∧ exN (mD (dA F a b)) = nI x ∧ s_off F a b = nI (x - 500) := by
  obtain ⟨x, h1, h2, e⟩ := exNN (mD_le (dA F a b))
  refine ⟨x, h1, h2, e, ?_⟩
  unfold s_off
  by_cases hc : F 1 b ≤ F 1 a
  · rw [s_exp_ge hc, e, show (500 : Int32) = nI 500 from rfl, pk_sub h1]
    unfold absI
    rw [if_pos (nI_pos' (by omega))]
  · rw [s_exp_lt hc, e]
    have e2 : (1000 : Int32) - nI x - 500 = -(nI (x - 500)) := by
      rw [show (1000 : Int32) = nI 1000 from rfl, show (500 : Int32) = nI 500 from rfl, pk_sub (by omega)]
      have : nI (1000 - x) - nI 500 = -(nI (x - 500)) := by
        refine Int32.toInt_inj.mp ?_
        rw [pk_sub_toInt (by omega) (by omega), sb_negT (by omega)]
        omega
      exact this
    rw [e2, absI_neg (by omega)]
theorem s_off_comm {n : Nat} {F : Nat → Nat → Int32} (h : okR n F) {a b : Nat} (ha : a < n) (hb : b < n) : s_off F a b = s_off F b a := by
  obtain ⟨x, h1, h2, e, e2⟩ := s_offN h ha hb
  obtain ⟨y, h3, h4, e3, e4⟩ := s_offN h hb ha
  rw [dA_comm h hb ha, e] at e3
  have : x = y := (nI_eq (by omega) (by omega)).mp e3
  rw [e2, e4, this]
theorem lexLt {u v u' v' : Nat} (hu : u ≤ 200000) (hv : v < 1000) (hu' : u' ≤ 200000) (hv' : v' < 1000) : ((1000 : Int32) * nI u + nI v < 1000 * nI u' + nI v') ↔ (nI u < nI u' ∨ (nI u = nI u' ∧ ¬ nI v' ≤ nI v)) := by
  rw [show (1000 : Int32) = nI 1000 from rfl, pk_mul, pk_mul, nI_add, nI_add, nI_ltI (by omega) (by omega), nI_ltI (by omega) (by omega), nI_eq (by omega) (by omega), nI_leI (by omega) (by omega)]
  omega
theorem s_loU_z {F : Nat → Nat → Int32} {z z' : Int32} : ∀ m, (∀ i, i < m → F 1 i ≤ z ∧ F 1 i ≤ z') → 0 < m → s_loU F z m = s_loU F z' m
  | 0, _, h0 => absurd h0 (by decide)
  | 1, h, _ => by
    show (if F 1 0 < z then F 1 0 else z) = (if F 1 0 < z' then F 1 0 else z')
    obtain ⟨a, b⟩ := h 0 (by decide)
    have k : ∀ y : Int32, F 1 0 ≤ y → (if F 1 0 < y then F 1 0 else y) = F 1 0 := by
      intro y hy
      by_cases hc : F 1 0 < y
      · rw [if_pos hc]
      · rw [if_neg hc]
        exact Int32.le_antisymm (Int32.not_lt.mp hc) hy
    rw [k z a, k z' b]
  | m + 2, h, _ => by
    show (if F 1 (m + 1) < s_loU F z (m + 1) then F 1 (m + 1) else s_loU F z (m + 1)) = (if F 1 (m + 1) < s_loU F z' (m + 1) then F 1 (m + 1) else s_loU F z' (m + 1))
    rw [s_loU_z (m + 1) (fun i hi => h i (by omega)) (by omega)]
theorem s_hiU_le {F : Nat → Nat → Int32} : ∀ m i, i < m → F 1 i ≤ s_hiU F m
  | 0, _, h => absurd h (by omega)
  | m + 1, i, h => by
    show F 1 i ≤ (if s_hiU F m < F 1 m then F 1 m else s_hiU F m)
    by_cases hc : s_hiU F m < F 1 m
    · rw [if_pos hc]
      rcases Nat.lt_or_ge i m with q | q
      · exact Int32.le_trans (s_hiU_le m i q) (Int32.le_of_lt hc)
      · rw [show i = m by omega]; exact Int32.le_refl _
    · rw [if_neg hc]
      rcases Nat.lt_or_ge i m with q | q
      · exact s_hiU_le m i q
      · rw [show i = m by omega]; exact Int32.not_lt.mp hc
theorem lo_eq {n : Nat} {F : Nat → Nat → Int32} (h : okR n F) : s_loU F (s_hi n F) n = s_lo n F := by
  unfold s_lo
  by_cases h0 : n = 0
  · subst h0; rfl
  · rw [if_neg h0]
    refine s_loU_z n (fun i hi => ⟨s_hiU_le n i hi, ?_⟩) (by omega)
    obtain ⟨x, x1, x2, ex⟩ := h i hi
    rw [ex]
    exact nI_le (b := 3000) x2 (by decide)
/-- a row put in another's place -/
def prow (F : Nat → Nat → Int32) (k : Nat) (f : Nat → Int32) : Nat → Nat → Int32 := fun a => cond (Nat.beq a k) f (F a)
def cpy12 (f g : Nat → Int32) : Nat → Int32 := va_cpy f g 0 0 12
def s_become (G F : Nat → Nat → Int32) : Nat → Nat → Int32 := prow (prow (prow (prow (prow (prow (prow F 1 (cpy12 (G 1) (F 1))) 0 (cpy12 (G 0) (F 0))) 2 (cpy12 (G 2) (F 2))) 3 (cpy12 (G 3) (F 3))) 4 (cpy12 (G 4) (F 4))) 5 (cpy12 (G 5) (F 5))) 6 (cpy12 (G 6) (F 6))
def s_endU (n : Nat) (F : Nat → Nat → Int32) (m : Nat) : (Nat → Nat → Int32) × Int32 := fo (fun k T => (s_exch n T.1 (nI k), if s_exchB n T.1 (nI k) = true then T.2 + 1 else T.2)) (F, 0) m
