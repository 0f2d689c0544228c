/-! Pure facts: ratings stay in range, the two forms of a bout, looking ahead, agreement of states. -/
theorem clampN (y : Int32) : ∃ r : Nat, 100 ≤ r ∧ r ≤ 3000 ∧ maxI 100 (minI 3000 y) = nI r := by
  unfold maxI minI
  by_cases h1 : y < 3000
  · rw [if_pos h1]
    by_cases h2 : (100 : Int32) < y
    · rw [if_pos h2]
      exact rngI (u := 100) (v := 3000) (Int32.not_lt.mpr (Int32.le_of_lt h2)) (Int32.le_of_lt h1) rfl rfl (by decide) (by decide)
    · rw [if_neg h2]
      exact ⟨100, by decide, by decide, rfl⟩
  · rw [if_neg h1, if_pos (by decide)]
    exact ⟨3000, by decide, by decide, rfl⟩
theorem thenN (F : Nat → Nat → Int32) (w o : Nat) (sc : Int32) : ∃ r : Nat, 100 ≤ r ∧ r ≤ 3000 ∧ s_then F w o sc = nI r := clampN _
theorem set_1 (F : Nat → Nat → Int32) (w : Nat) (x : Int32) (i : Nat) : s_set F w x 1 i = if i = w then x else F 1 i := by simp [s_set, pu_app]
theorem set_4 (F : Nat → Nat → Int32) (w : Nat) (x : Int32) (i : Nat) : s_set F w x 4 i = F 4 i := by simp [s_set, pu_app]
theorem note_1 (F : Nat → Nat → Int32) (w q i : Nat) : s_note F w q 1 i = F 1 i := by simp [s_note, pu_app]
theorem note_4 (F : Nat → Nat → Int32) (w q i : Nat) : s_note F w q 4 i = if i = w then F 4 w + 1 else F 4 i := by simp [s_note, pu_app]
theorem okR_set {n : Nat} {F : Nat → Nat → Int32} {w : Nat} {x : Int32} (h : okR n F) (hx : ∃ r : Nat, 100 ≤ r ∧ r ≤ 3000 ∧ x = nI r) : okR n (s_set F w x) := by
  intro i hi
  rw [set_1]
  by_cases e : i = w
  · rw [if_pos e]; exact hx
  · rw [if_neg e]; exact h i hi
theorem okR_note {n : Nat} {F : Nat → Nat → Int32} {w q : Nat} (h : okR n F) : okR n (s_note F w q) := by
  intro i hi
  rw [note_1]; exact h i hi
theorem set_note (X : Nat → Nat → Int32) (a b q : Nat) (t : Int32) : s_set (s_note X a q) b t = s_note (s_set X b t) a q := by
  funext j k
  by_cases e1 : j = 1
  · subst e1; simp [s_set, s_note, pu_app]
  by_cases e2 : j = 2
  · subst e2; simp [s_set, s_note, pu_app]
  by_cases e3 : j = 3
  · subst e3; simp [s_set, s_note, pu_app]
  by_cases e4 : j = 4
  · subst e4; simp [s_set, s_note, pu_app]
  by_cases e5 : j = 5
  · subst e5; simp [s_set, s_note, pu_app]
  by_cases e6 : j = 6
  · subst e6; simp [s_set, s_note, pu_app]
  · simp [s_set, s_note, pu_app, e1, e2, e3, e4, e5, e6]
theorem i32_asc (x y : Int32) : x + (y - x) = y := by rw [Int32.add_comm, Int32.sub_add_cancel]
theorem q500 (q : Nat) : nI q * 500 = nI (500 * q) := by rw [show (500 : Int32) = nI 500 from rfl, pk_mul, Nat.mul_comm]
theorem hold_mb (F : Nat → Nat → Int32) {a b : Nat} (q : Nat) (h : a ≠ b) : s_hold F a b q = s_mb F a b q := by
  have e1 : s_enter F a (s_gain F a b (nI q)) q = s_note (s_set F a (s_then F a b (nI (500 * q)))) a q := by
    unfold s_enter s_gain
    rw [i32_asc, q500]
  have e2 : (s_note (s_set F a (s_then F a b (nI (500 * q)))) a q) 1 b = F 1 b := by
    rw [note_1, set_1, if_neg (fun z => h z.symm)]
  unfold s_hold
  rw [e1]
  show s_note (s_set (s_note (s_set F a (s_then F a b (nI (500 * q)))) a q) b ((s_note (s_set F a (s_then F a b (nI (500 * q)))) a q) 1 b + s_gain F b a (nI (2 - q)))) b (2 - q) = _
  rw [e2]
  unfold s_gain
  rw [i32_asc, q500, set_note]
  rfl
theorem okR_mb {n : Nat} {F : Nat → Nat → Int32} {a b q : Nat} (h : okR n F) : okR n (s_mb F a b q) := okR_note (okR_note (okR_set (okR_set h (thenN _ _ _ _)) (thenN _ _ _ _)))
theorem okR_hold {n : Nat} {F : Nat → Nat → Int32} {a b q : Nat} (hab : a ≠ b) (h : okR n F) : okR n (s_hold F a b q) := by
  rw [hold_mb F q hab]; exact okR_mb h
theorem okR_har {n : Nat} {F : Nat → Nat → Int32} {a b : Nat} (hab : a ≠ b) (h : okR n F) : okR n (s_har F a b) := okR_hold hab h
/-- bouts of the season, at most k -/
def okK (n : Nat) (F : Nat → Nat → Int32) (k : Nat) : Prop := ∀ i, i < n → ∃ x : Nat, x ≤ k ∧ F 4 i = nI x
theorem okK.B {n : Nat} {F : Nat → Nat → Int32} {k : Nat} (h : okK n F k) (hk : k ≤ 100000) : okB n F := fun i hi => (h i hi).elim fun x q => ⟨x, by omega, q.2⟩
theorem okK.mono {n : Nat} {F : Nat → Nat → Int32} {k k' : Nat} (h : okK n F k) (hk : k ≤ k') : okK n F k' := fun i hi => (h i hi).elim fun x q => ⟨x, by omega, q.2⟩
theorem okK_note {n : Nat} {F : Nat → Nat → Int32} {w q k : Nat} (h : ∀ i, i < n → ∃ x : Nat, x ≤ k ∧ F 4 i = nI x ∧ (i = w → x + 1 ≤ k)) : okK n (s_note F w q) k := by
  intro i hi
  obtain ⟨x, h1, h2, h3⟩ := h i hi
  rw [note_4]
  by_cases e : i = w
  · rw [if_pos e, ← e, h2]
    exact ⟨x + 1, h3 e, nI_1 x⟩
  · rw [if_neg e]
    exact ⟨x, h1, h2⟩
theorem okK_mb {n : Nat} {F : Nat → Nat → Int32} {a b q k : Nat} (hab : a ≠ b) (h : okK n F k) : okK n (s_mb F a b q) (k + 1) := by
  unfold s_mb
  intro i hi
  obtain ⟨x, h1, h2⟩ := h i hi
  rw [note_4, note_4, note_4, set_4, set_4, set_4, set_4, set_4, set_4]
  by_cases e1 : i = b
  · subst e1
    rw [if_pos rfl, if_neg (fun z => hab z.symm), h2]
    exact ⟨x + 1, by omega, nI_1 x⟩
  · rw [if_neg e1]
    by_cases e2 : i = a
    · subst e2
      rw [if_pos rfl, h2]
      exact ⟨x + 1, by omega, nI_1 x⟩
    · rw [if_neg e2]
      exact ⟨x, by omega, h2⟩
theorem okK_har {n : Nat} {F : Nat → Nat → Int32} {a b k : Nat} (hab : a ≠ b) (h : okK n F k) : okK n (s_har F a b) (k + 1) := by
  unfold s_har; rw [hold_mb F _ hab]; exact okK_mb hab h
/-- what next answers -/
def pN (n : Nat) (x : Int32) : Prop := x = -1 ∨ ∃ a b : Nat, a < b ∧ b < n ∧ x = nI (12 * a + b)
theorem pN_pairI {n : Nat} {F : Nat → Nat → Int32} {a : Nat} {T : Int32 × Int32 × Int32} (hT : pN n T.1) : ∀ m, m ≤ n → pN n (s_pairI F a m T).1
  | 0, _ => hT
  | m + 1, h => by
    have ih := pN_pairI (F := F) (a := a) hT m (by omega)
    show pN n (if a < m then pairB F a m (s_pairI F a m T) else s_pairI F a m T).1
    by_cases c : a < m
    · rw [if_pos c]
      unfold pairB
      by_cases c1 : F 0 a = F 0 m
      · rw [if_pos c1]
        split
        · refine Or.inr ⟨a, m, c, by omega, ?_⟩
          show nI a * 12 + nI m = _
          rw [show (12 : Int32) = nI 12 from rfl, pk_mul, nI_add, Nat.mul_comm]
        · exact ih
      · rw [if_neg c1]; exact ih
    · rw [if_neg c]; exact ih
theorem pN_next {n : Nat} (F : Nat → Nat → Int32) : pN n (s_next n F) := by
  have h : ∀ m, pN n (s_pairU n F m).1 := by
    intro m
    induction m with
    | zero => exact Or.inl rfl
    | succ m ih => exact pN_pairI ih n (Nat.le_refl n)
  exact h n
theorem div12 {a b n : Nat} (hab : a < b) (hb : b < n) (hn : n ≤ 12) : nI (12 * a + b) / 12 = nI a := by
  rw [show (12 : Int32) = nI 12 from rfl, pk_div (by omega) (by decide) (by decide)]
  congr 1; omega
theorem rem12 {a b n : Nat} (hab : a < b) (hb : b < n) (hn : n ≤ 12) : nI (12 * a + b) - nI (12 * a + b) / 12 * 12 = nI b := by
  rw [show (12 : Int32) = nI 12 from rfl, pk_rem (by omega) (by decide) (by decide)]
  congr 1; omega
def nxA (x : Int32) : Nat := cl (x / 12)
def nxB (x : Int32) : Nat := cl (x - x / 12 * 12)
theorem nxA_e {a b n : Nat} (hab : a < b) (hb : b < n) (hn : n ≤ 12) : nxA (nI (12 * a + b)) = a := by unfold nxA; rw [div12 hab hb hn, cl_nI (by omega)]
theorem nxB_e {a b n : Nat} (hab : a < b) (hb : b < n) (hn : n ≤ 12) : nxB (nI (12 * a + b)) = b := by unfold nxB; rw [rem12 hab hb hn, cl_nI (by omega)]
/-- some bouts looked ahead -/
def s_forU (n : Nat) (F : Nat → Nat → Int32) (m : Nat) : Nat → Nat → Int32 := fo (fun _ X => if s_next n X = -1 then X else s_har X (nxA (s_next n X)) (nxB (s_next n X))) F m
theorem forU_go {n : Nat} {F X : Nat → Nat → Int32} {m a b : Nat} (hX : X = s_forU n F m) (hab : a < b) (hb : b < n) (hn : n ≤ 12) (e : s_next n X = nI (12 * a + b)) : s_har X a b = s_forU n F (m + 1) := by
  show _ = (if s_next n (s_forU n F m) = -1 then s_forU n F m else s_har (s_forU n F m) (nxA (s_next n (s_forU n F m))) (nxB (s_next n (s_forU n F m))))
  rw [← hX, e, if_neg (nI_m1 (by omega)), nxA_e hab hb hn, nxB_e hab hb hn]
theorem forU_stop {n : Nat} {F : Nat → Nat → Int32} {m : Nat} (h : s_next n (s_forU n F m) = -1) : ∀ d, s_forU n F (m + d) = s_forU n F m
  | 0 => rfl
  | d + 1 => by
    have ih := forU_stop h d
    show (if s_next n (s_forU n F (m + d)) = -1 then s_forU n F (m + d) else _) = _
    rw [ih, if_pos h]
/-- states that agree on the n wrestlers -/
def AG (n : Nat) (F F' : Nat → Nat → Int32) : Prop := ∀ j i, j < 7 → i < n → F j i = F' j i
theorem ag_pu {n : Nat} {F F' : Nat → Nat → Int32} (h : AG n F F') (k i : Nat) {x x' : Int32} (hx : x = x') : AG n (pu F k i x) (pu F' k i x') := by
  intro j u hj hu
  rw [pu_app, pu_app, hx, h j u hj hu]
theorem ag_exp {n : Nat} {F F' : Nat → Nat → Int32} (h : AG n F F') {a b : Nat} (ha : a < n) (hb : b < n) : s_exp F a b = s_exp F' a b := by
  unfold s_exp
  rw [h 1 a (by decide) ha, h 1 b (by decide) hb]
theorem ag_off {n : Nat} {F F' : Nat → Nat → Int32} (h : AG n F F') {a b : Nat} (ha : a < n) (hb : b < n) : s_off F a b = s_off F' a b := by
  unfold s_off; rw [ag_exp h ha hb]
theorem ag_gain {n : Nat} {F F' : Nat → Nat → Int32} (h : AG n F F') {a b : Nat} (ha : a < n) (hb : b < n) (r : Int32) : s_gain F a b r = s_gain F' a b r := by
  unfold s_gain s_then s_wt
  rw [ag_exp h ha hb, h 1 a (by decide) ha, h 3 a (by decide) ha]
theorem ag_set {n : Nat} {F F' : Nat → Nat → Int32} (h : AG n F F') {w : Nat} (hw : w < n) {x x' : Int32} (hx : x = x') : AG n (s_set F w x) (s_set F' w x') :=
  ag_pu (ag_pu h 1 w hx) 6 w (by rw [h 6 w (by decide) hw, hx])
theorem ag_note {n : Nat} {F F' : Nat → Nat → Int32} (h : AG n F F') {w : Nat} (hw : w < n) (q : Nat) : AG n (s_note F w q) (s_note F' w q) :=
  ag_pu (ag_pu (ag_pu (ag_pu h 2 w (by rw [h 2 w (by decide) hw])) 3 w (by rw [h 3 w (by decide) hw])) 4 w (by rw [h 4 w (by decide) hw])) 5 w (by rw [h 5 w (by decide) hw])
theorem ag_enter {n : Nat} {F F' : Nat → Nat → Int32} (h : AG n F F') {w : Nat} (hw : w < n) {g g' : Int32} (hg : g = g') (q : Nat) : AG n (s_enter F w g q) (s_enter F' w g' q) :=
  ag_note (ag_set h hw (by rw [h 1 w (by decide) hw, hg])) hw q
theorem ag_har {n : Nat} {F F' : Nat → Nat → Int32} (h : AG n F F') {a b : Nat} (ha : a < n) (hb : b < n) : AG n (s_har F a b) (s_har F' a b) := by
  unfold s_har s_hold
  rw [h 1 a (by decide) ha, h 1 b (by decide) hb]
  exact ag_enter (ag_enter h ha (ag_gain h ha hb _) _) hb (ag_gain h hb ha _) _
theorem ag_pairI {n : Nat} {F F' : Nat → Nat → Int32} (h : AG n F F') {a : Nat} (ha : a < n) (T : Int32 × Int32 × Int32) (m : Nat) : m ≤ n → s_pairI F a m T = s_pairI F' a m T := by
  induction m with
  | zero =>
    intro _
    show fo _ T 0 = fo _ T 0
    rw [fo_0, fo_0]
  | succ m ih =>
    intro hm
    show (if a < m then pairB F a m (s_pairI F a m T) else s_pairI F a m T) = (if a < m then pairB F' a m (s_pairI F' a m T) else s_pairI F' a m T)
    rw [ih (by omega)]
    unfold pairB
    rw [h 0 a (by decide) ha, h 0 m (by decide) (by omega), h 4 a (by decide) ha, h 4 m (by decide) (by omega), ag_off h ha (show m < n by omega)]
theorem ag_next {n : Nat} {F F' : Nat → Nat → Int32} (h : AG n F F') : s_next n F = s_next n F' := by
  have k : ∀ m, m ≤ n → s_pairU n F m = s_pairU n F' m := by
    intro m
    induction m with
    | zero =>
      intro _
      show fo _ _ 0 = fo _ _ 0
      rw [fo_0, fo_0]
    | succ m ih =>
      intro hm
      show s_pairI F m n (s_pairU n F m) = s_pairI F' m n (s_pairU n F' m)
      rw [ih (by omega), ag_pairI h (by omega) _ n (Nat.le_refl n)]
  unfold s_next
  rw [k n (Nat.le_refl n)]
theorem ag_hi {n : Nat} {F F' : Nat → Nat → Int32} (h : AG n F F') : s_hi n F = s_hi n F' := by
  have k : ∀ m, m ≤ n → s_hiU F m = s_hiU F' m := by
    intro m
    induction m with
    | zero =>
      intro _
      show fo _ _ 0 = fo _ _ 0
      rw [fo_0, fo_0]
    | succ m ih =>
      intro hm
      show (if s_hiU F m < F 1 m then F 1 m else s_hiU F m) = (if s_hiU F' m < F' 1 m then F' 1 m else s_hiU F' m)
      rw [ih (by omega), h 1 m (by decide) (by omega)]
  exact k n (Nat.le_refl n)
theorem ag_forU {n : Nat} (hn : n ≤ 12) {F F' : Nat → Nat → Int32} (h : AG n F F') : ∀ m, AG n (s_forU n F m) (s_forU n F' m)
  | 0 => h
  | m + 1 => by
    have ih := ag_forU hn h m
    have e := ag_next ih
    rcases pN_next (n := n) (s_forU n F m) with e1 | ⟨a, b, hab, hb, e1⟩
    · show AG n (if s_next n (s_forU n F m) = -1 then s_forU n F m else _) (if s_next n (s_forU n F' m) = -1 then s_forU n F' m else _)
      rw [← e, if_pos e1, if_pos e1]
      exact ih
    · rw [← forU_go (X := s_forU n F m) rfl hab hb hn e1, ← forU_go (X := s_forU n F' m) rfl hab hb hn (e ▸ e1)]
      exact ag_har ih (by omega) hb
theorem copyU_app (G F : Nat → Nat → Int32) : ∀ m j i, s_copyU G F m j i = if j < 7 ∧ i < m then G j i else F j i
  | 0, j, i => by rw [if_neg (by omega)]; rfl
  | m + 1, j, i => by
    show (pu (pu (pu (pu (pu (pu (pu (s_copyU G F m) 0 m (G 0 m)) 1 m (G 1 m)) 2 m (G 2 m)) 3 m (G 3 m)) 4 m (G 4 m)) 5 m (G 5 m)) 6 m (G 6 m)) j i = _
    simp only [pu_app]
    rw [copyU_app G F m j i]
    by_cases hi : i = m
    · subst hi
      by_cases hj : j < 7
      · rw [if_pos (show j < 7 ∧ i < i + 1 by omega)]
        rcases (show j = 0 ∨ j = 1 ∨ j = 2 ∨ j = 3 ∨ j = 4 ∨ j = 5 ∨ j = 6 by omega) with rfl | rfl | rfl | rfl | rfl | rfl | rfl <;> simp
      · rw [if_neg (by omega), if_neg (by omega), if_neg (by omega), if_neg (by omega), if_neg (by omega), if_neg (by omega), if_neg (by omega), if_neg (by omega), if_neg (by omega)]
    · rw [if_neg (by omega), if_neg (by omega), if_neg (by omega), if_neg (by omega), if_neg (by omega), if_neg (by omega), if_neg (by omega)]
      by_cases hj : j < 7 ∧ i < m
      · rw [if_pos hj, if_pos (by omega)]
      · rw [if_neg hj, if_neg (by omega)]
theorem ag_copy (n : Nat) (G F : Nat → Nat → Int32) : AG n (s_copyU G F n) G := fun j i hj hi => by rw [copyU_app, if_pos ⟨hj, hi⟩]
theorem okR_ag {n : Nat} {F F' : Nat → Nat → Int32} (h : AG n F F') (k : okR n F') : okR n F := fun i hi => by rw [h 1 i (by decide) hi]; exact k i hi
theorem okK_ag {n : Nat} {F F' : Nat → Nat → Int32} {b : Nat} (h : AG n F F') (k : okK n F' b) : okK n F b := fun i hi => by rw [h 4 i (by decide) hi]; exact k i hi
theorem ag_become {n : Nat} (hn : n ≤ 12) (G F : Nat → Nat → Int32) : AG n (s_become G F) G := by
  intro j i hj hi
  have k : ∀ f g : Nat → Int32, cpy12 f g i = f i := by
    intro f g
    unfold cpy12
    rw [pk_cpy_in (by omega) (by omega)]
    congr 1; omega
  rcases (show j = 0 ∨ j = 1 ∨ j = 2 ∨ j = 3 ∨ j = 4 ∨ j = 5 ∨ j = 6 by omega) with rfl | rfl | rfl | rfl | rfl | rfl | rfl
  · exact k (G 0) (F 0)
  · exact k (G 1) (F 1)
  · exact k (G 2) (F 2)
  · exact k (G 3) (F 3)
  · exact k (G 4) (F 4)
  · exact k (G 5) (F 5)
  · exact k (G 6) (F 6)
/-- the reference's counts beside it -/
def s_forM (n : Nat) (F : Nat → Nat → Int32) (c : Nat → Int32) (m : Nat) : Nat → Int32 := fo (fun u X => if s_next n (s_forU n F u) = -1 then X else s_ct X (s_forU n F u) (nxA (s_next n (s_forU n F u))) (nxB (s_next n (s_forU n F u))) (if (s_forU n F u) 1 (nxA (s_next n (s_forU n F u))) < (s_forU n F u) 1 (nxB (s_next n (s_forU n F u))) then 0 else 2)) c m
theorem forM_s (n : Nat) (F : Nat → Nat → Int32) (c : Nat → Int32) (u : Nat) : s_forM n F c (u + 1) = if s_next n (s_forU n F u) = -1 then s_forM n F c u else s_ct (s_forM n F c u) (s_forU n F u) (nxA (s_next n (s_forU n F u))) (nxB (s_next n (s_forU n F u))) (if (s_forU n F u) 1 (nxA (s_next n (s_forU n F u))) < (s_forU n F u) 1 (nxB (s_next n (s_forU n F u))) then 0 else 2) := rfl
theorem forM_go {n : Nat} {F X : Nat → Nat → Int32} {c C : Nat → Int32} {m a b : Nat} (hX : X = s_forU n F m) (hC : C = s_forM n F c m) (hab : a < b) (hb : b < n) (hn : n ≤ 12) (e : s_next n X = nI (12 * a + b)) : s_ct C X a b (if X 1 a < X 1 b then 0 else 2) = s_forM n F c (m + 1) := by
  rw [forM_s, ← hX, e, if_neg (nI_m1 (by omega)), nxA_e hab hb hn, nxB_e hab hb hn, ← hC]
theorem forM_stop {n : Nat} {F : Nat → Nat → Int32} {c : Nat → Int32} {m : Nat} (h : s_next n (s_forU n F m) = -1) : ∀ d, s_forM n F c (m + d) = s_forM n F c m
  | 0 => rfl
  | d + 1 => by
    show (if s_next n (s_forU n F (m + d)) = -1 then s_forM n F c (m + d) else _) = _
    rw [forU_stop h d, if_pos h, forM_stop h d]
