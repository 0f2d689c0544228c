/-! What holds of the state through every call. -/
def smN (F : Nat → Nat → Int32) (k n : Nat) : Nat := fo (fun i a => a + cl (F k i)) 0 n
theorem smN_s (F : Nat → Nat → Int32) (k n : Nat) : smN F k (n + 1) = smN F k n + cl (F k n) := rfl
theorem smN_cong {F G : Nat → Nat → Int32} {k n : Nat} : (∀ i, i < n → G k i = F k i) → smN G k n = smN F k n := by
  induction n with
  | zero =>
    intro _
    show fo _ _ 0 = fo _ _ 0
    rw [fo_0, fo_0]
  | succ n ih =>
    intro h
    have h1 := ih (fun i hi => h i (by omega))
    have h2 := h n (by omega)
    exact (congrArg (fun x => smN G k n + cl x) h2).trans (congrArg (fun y => y + cl (F k n)) h1)
theorem smN_upd {F G : Nat → Nat → Int32} {k a : Nat} (h : ∀ i, i ≠ a → G k i = F k i) : ∀ {n : Nat}, a < n → smN G k n + cl (F k a) = smN F k n + cl (G k a)
  | 0, ha => absurd ha (by omega)
  | n + 1, ha => by
    rw [smN_s, smN_s]
    by_cases q : a = n
    · subst q
      rw [smN_cong (fun i hi => h i (by omega))]
      omega
    · have ih := smN_upd h (show a < n by omega)
      rw [h n (fun z => q z.symm)]
      omega
/-- one wrestler's numbers -/
def WR (F : Nat → Nat → Int32) (K i : Nat) : Prop := ∃ g r p b s w m : Nat, F 0 i = nI g ∧ F 1 i = nI r ∧ F 2 i = nI p ∧ F 3 i = nI b ∧ F 4 i = nI s ∧ F 5 i = nI w ∧ F 6 i = nI m ∧ g < 3 ∧ 100 ≤ r ∧ r ≤ m ∧ m ≤ 3000 ∧ 1000 ≤ m ∧ p ≤ 2 * s ∧ s ≤ b ∧ w ≤ b ∧ b ≤ K
def INV (n : Nat) (F : Nat → Nat → Int32) (ct : Nat → Int32) (K : Nat) : Prop :=
  (n ≤ 12 ∧ (∀ i, i < n → WR F K i)) ∧ (∀ i k, n ≤ i → 2 ≤ k → k ≤ 5 → F k i = 0) ∧ (∃ B U : Nat, ct 1 = nI B ∧ ct 2 = nI U ∧ U ≤ B ∧ B ≤ K ∧ smN F 3 n = 2 * B) ∧ smN F 2 n = smN F 4 n ∧ smN F 4 n % 2 = 0
theorem INV.n12 {n : Nat} {F : Nat → Nat → Int32} {ct : Nat → Int32} {K : Nat} (h : INV n F ct K) : n ≤ 12 := h.1.1
theorem INV.wr {n : Nat} {F : Nat → Nat → Int32} {ct : Nat → Int32} {K : Nat} (h : INV n F ct K) {i : Nat} (hi : i < n) : WR F K i := h.1.2 i hi
theorem INV.okR {n : Nat} {F : Nat → Nat → Int32} {ct : Nat → Int32} {K : Nat} (h : INV n F ct K) : okR n F := fun i hi => by
  obtain ⟨g, r, p, b, s, w, m, e0, e1, e2, e3, e4, e5, e6, h1, h2, h3, h4, h5, h6, h7, h8, h9⟩ := h.wr hi
  exact ⟨r, h2, by omega, e1⟩
theorem WR.mono {F : Nat → Nat → Int32} {K K' i : Nat} (h : WR F K i) (hK : K ≤ K') : WR F K' i := by
  obtain ⟨g, r, p, b, s, w, m, e0, e1, e2, e3, e4, e5, e6, h1, h2, h3, h4, h5, h6, h7, h8, h9⟩ := h
  exact ⟨g, r, p, b, s, w, m, e0, e1, e2, e3, e4, e5, e6, h1, h2, h3, h4, h5, h6, h7, h8, by omega⟩
theorem INV.mono {n : Nat} {F : Nat → Nat → Int32} {ct : Nat → Int32} {K K' : Nat} (h : INV n F ct K) (hK : K ≤ K') : INV n F ct K' := by
  obtain ⟨⟨h0, h1⟩, h2, ⟨B, U, b1, b2, b3, b4, b5⟩, h4⟩ := h
  exact ⟨⟨h0, fun i hi => (h1 i hi).mono hK⟩, h2, ⟨B, U, b1, b2, b3, by omega, b5⟩, h4⟩
theorem INV.zero : INV 0 Z0 z0 0 := ⟨⟨by decide, fun i h => absurd h (Nat.not_lt_zero i)⟩, fun _ _ _ _ _ => rfl, ⟨0, 0, rfl, rfl, Nat.le_refl 0, Nat.le_refl 0, rfl⟩, rfl, rfl⟩
theorem INV.add {n : Nat} {F : Nat → Nat → Int32} {ct : Nat → Int32} {K g : Nat} (h : INV n F ct K) (hn : n < 12) (hg : g < 3) : INV (n + 1) (s_add F n (nI g)) ct K := by
  obtain ⟨⟨h0, h1⟩, h2, ⟨B, U, b1, b2, b3, b4, b5⟩, h4, h5⟩ := h
  have e : ∀ k i, 2 ≤ k → k ≤ 5 → s_add F n (nI g) k i = F k i := by
    intro k i k1 k2
    unfold s_add
    rw [pu_app, pu_app, pu_app, if_neg (by omega), if_neg (by omega), if_neg (by omega)]
  have sm : ∀ k, 2 ≤ k → k ≤ 5 → smN (s_add F n (nI g)) k (n + 1) = smN F k n := by
    intro k k1 k2
    rw [smN_s, e k n k1 k2, h2 n k (Nat.le_refl n) k1 k2, smN_cong (fun i _ => e k i k1 k2)]
    rfl
  refine ⟨⟨by omega, fun i hi => ?_⟩, fun i k i1 k1 k2 => by rw [e k i k1 k2]; exact h2 i k (by omega) k1 k2, ⟨B, U, b1, b2, b3, b4, by rw [sm 3 (by decide) (by decide)]; exact b5⟩, by rw [sm 2 (by decide) (by decide), sm 4 (by decide) (by decide)]; exact h4, by rw [sm 4 (by decide) (by decide)]; exact h5⟩
  by_cases q : i = n
  · subst q
    refine ⟨g, 1000, 0, 0, 0, 0, 1000, by simp [s_add, pu_app], ?_, ?_, ?_, ?_, ?_, ?_, hg, by decide, by decide, by decide, by decide, by decide, by decide, by decide, Nat.zero_le _⟩
    · show s_add F i (nI g) 1 i = 1000; simp [s_add, pu_app]
    · rw [e 2 i (by decide) (by decide), h2 i 2 (Nat.le_refl i) (by decide) (by decide)]; rfl
    · rw [e 3 i (by decide) (by decide), h2 i 3 (Nat.le_refl i) (by decide) (by decide)]; rfl
    · rw [e 4 i (by decide) (by decide), h2 i 4 (Nat.le_refl i) (by decide) (by decide)]; rfl
    · rw [e 5 i (by decide) (by decide), h2 i 5 (Nat.le_refl i) (by decide) (by decide)]; rfl
    · show s_add F i (nI g) 6 i = 1000; simp [s_add, pu_app]
  · have e2 : ∀ k, s_add F n (nI g) k i = F k i := by
      intro k
      unfold s_add
      rw [pu_app, pu_app, pu_app, if_neg (by omega), if_neg (by omega), if_neg (by omega)]
    obtain ⟨g', r, p, b, s, w, m, e0, e1', e2', e3, e4, e5, e6, r1⟩ := h1 i (by omega)
    exact ⟨g', r, p, b, s, w, m, by rw [e2]; exact e0, by rw [e2]; exact e1', by rw [e2]; exact e2', by rw [e2]; exact e3, by rw [e2]; exact e4, by rw [e2]; exact e5, by rw [e2]; exact e6, r1⟩
theorem set_o {F : Nat → Nat → Int32} {w : Nat} {x : Int32} {k i : Nat} (h : k ≠ 1) (h6 : k ≠ 6) : s_set F w x k i = F k i := by
  unfold s_set
  rw [pu_app, if_neg (fun q => h6 q.1), pu_app, if_neg (fun q => h q.1)]
theorem set_6 {F : Nat → Nat → Int32} {w : Nat} {x : Int32} {i : Nat} : s_set F w x 6 i = if i = w then maxI (F 6 w) x else F 6 i := by
  unfold s_set
  rw [pu_app]
  by_cases q : i = w
  · rw [if_pos ⟨rfl, q⟩, if_pos q]
  · rw [if_neg (fun z => q z.2), if_neg q, pu_app, if_neg (fun z => absurd z.1 (by decide))]
theorem maxN {a b : Nat} (ha : a < 2 ^ 31) (hb : b < 2 ^ 31) : maxI (nI a) (nI b) = nI (max a b) := by
  unfold maxI
  by_cases q : a < b
  · rw [if_pos ((nI_ltI ha hb).mpr q), Nat.max_eq_right (by omega)]
  · rw [if_neg (fun z => q ((nI_ltI ha hb).mp z)), Nat.max_eq_left (by omega)]
theorem WR.set {F : Nat → Nat → Int32} {K i w x : Nat} (h : WR F K i) (h1 : 100 ≤ x) (h2 : x ≤ 3000) : WR (s_set F w (nI x)) K i := by
  obtain ⟨g, r, p, b, s, u, m, e0, e1, e2, e3, e4, e5, e6, q1, q2, q3, q4, q5, q6, q7, q8, q9⟩ := h
  by_cases q : i = w
  · subst q
    refine ⟨g, x, p, b, s, u, max m x, by rw [set_o (by decide) (by decide)]; exact e0, by rw [set_1, if_pos rfl], by rw [set_o (by decide) (by decide)]; exact e2, by rw [set_o (by decide) (by decide)]; exact e3, by rw [set_o (by decide) (by decide)]; exact e4, by rw [set_o (by decide) (by decide)]; exact e5, by rw [set_6, if_pos rfl, e6, maxN (by omega) (by omega)], q1, h1, by omega, by omega, by omega, q6, q7, q8, q9⟩
  · exact ⟨g, r, p, b, s, u, m, by rw [set_o (by decide) (by decide)]; exact e0, by rw [set_1, if_neg q]; exact e1, by rw [set_o (by decide) (by decide)]; exact e2, by rw [set_o (by decide) (by decide)]; exact e3, by rw [set_o (by decide) (by decide)]; exact e4, by rw [set_o (by decide) (by decide)]; exact e5, by rw [set_6, if_neg q]; exact e6, q1, q2, q3, q4, q5, q6, q7, q8, q9⟩
theorem INV.set {n : Nat} {F : Nat → Nat → Int32} {ct : Nat → Int32} {K w x : Nat} (h : INV n F ct K) (h1 : 100 ≤ x) (h2 : x ≤ 3000) : INV n (s_set F w (nI x)) ct K := by
  obtain ⟨⟨h0, g1⟩, g2, ⟨B, U, b1, b2, b3, b4, b5⟩, g4, g5⟩ := h
  have sm : ∀ k, k ≠ 1 → k ≠ 6 → smN (s_set F w (nI x)) k n = smN F k n := fun k k1 k2 => smN_cong (fun i _ => set_o k1 k2)
  exact ⟨⟨h0, fun i hi => (g1 i hi).set h1 h2⟩, fun i k i1 k1 k2 => by rw [set_o (by omega) (by omega)]; exact g2 i k i1 k1 k2, ⟨B, U, b1, b2, b3, b4, by rw [sm 3 (by decide) (by decide)]; exact b5⟩, by rw [sm 2 (by decide) (by decide), sm 4 (by decide) (by decide)]; exact g4, by rw [sm 4 (by decide) (by decide)]; exact g5⟩
theorem note_o {F : Nat → Nat → Int32} {w q k i : Nat} (h : i ≠ w) : s_note F w q k i = F k i := by
  unfold s_note
  rw [pu_app, if_neg (fun z => h z.2), pu_app, if_neg (fun z => h z.2), pu_app, if_neg (fun z => h z.2), pu_app, if_neg (fun z => h z.2)]
theorem note_k {F : Nat → Nat → Int32} {w q : Nat} : s_note F w q 0 w = F 0 w ∧ s_note F w q 1 w = F 1 w ∧ s_note F w q 2 w = F 2 w + nI q ∧ s_note F w q 3 w = F 3 w + 1 ∧ s_note F w q 4 w = F 4 w + 1 ∧ s_note F w q 5 w = (if q = 2 then F 5 w + 1 else 0) ∧ s_note F w q 6 w = F 6 w := by
  refine ⟨?_, ?_, ?_, ?_, ?_, ?_, ?_⟩ <;> simp [s_note, pu_app]
theorem WR.note {F : Nat → Nat → Int32} {K i w q : Nat} (hq : q ≤ 2) (h : WR F K i) : WR (s_note F w q) (K + 1) i := by
  obtain ⟨g, r, p, b, s, u, m, e0, e1, e2, e3, e4, e5, e6, q1, q2, q3, q4, q5, q6, q7, q8, q9⟩ := h
  by_cases z : i = w
  · subst z
    obtain ⟨n0, n1, n2, n3, n4, n5, n6⟩ := note_k (F := F) (w := i) (q := q)
    refine ⟨g, r, p + q, b + 1, s + 1, if q = 2 then u + 1 else 0, m, n0.trans e0, n1.trans e1, by rw [n2, e2, nI_add], by rw [n3, e3, nI_1], by rw [n4, e4, nI_1], ?_, n6.trans e6, q1, q2, q3, q4, q5, by omega, by omega, by split <;> omega, by omega⟩
    rw [n5, e5]
    split
    · exact nI_1 u
    · rfl
  · exact ⟨g, r, p, b, s, u, m, by rw [note_o z]; exact e0, by rw [note_o z]; exact e1, by rw [note_o z]; exact e2, by rw [note_o z]; exact e3, by rw [note_o z]; exact e4, by rw [note_o z]; exact e5, by rw [note_o z]; exact e6, q1, q2, q3, q4, q5, q6, q7, q8, by omega⟩
theorem smN_note {F : Nat → Nat → Int32} {n w q K : Nat} (hw : w < n) (hK : K ≤ 1000) (hq : q ≤ 2) (h : WR F K w) : smN (s_note F w q) 2 n = smN F 2 n + q ∧ smN (s_note F w q) 3 n = smN F 3 n + 1 ∧ smN (s_note F w q) 4 n = smN F 4 n + 1 := by
  obtain ⟨g, r, p, b, s, u, m, e0, e1, e2, e3, e4, e5, e6, q1, q2, q3, q4, q5, q6, q7, q8, q9⟩ := h
  obtain ⟨n0, n1, n2, n3, n4, n5, n6⟩ := note_k (F := F) (w := w) (q := q)
  have s2 := smN_upd (F := F) (G := s_note F w q) (k := 2) (a := w) (fun i hi => note_o hi) hw
  have s3 := smN_upd (F := F) (G := s_note F w q) (k := 3) (a := w) (fun i hi => note_o hi) hw
  have s4 := smN_upd (F := F) (G := s_note F w q) (k := 4) (a := w) (fun i hi => note_o hi) hw
  rw [n2, e2, nI_add, cl_nI (by omega), cl_nI (by omega)] at s2
  rw [n3, e3, nI_1, cl_nI (by omega), cl_nI (by omega)] at s3
  rw [n4, e4, nI_1, cl_nI (by omega), cl_nI (by omega)] at s4
  omega
theorem up01 (b : Bool) : ∃ u : Nat, u ≤ 1 ∧ bI b = nI u := by
  cases b with
  | false => exact ⟨0, by decide, rfl⟩
  | true => exact ⟨1, by decide, rfl⟩
theorem INV.hold {n : Nat} {F : Nat → Nat → Int32} {ct : Nat → Int32} {K a b q : Nat} (h : INV n F ct K) (hK : K ≤ 900) (ha : a < n) (hb : b < n) (hab : a ≠ b) (hq : q ≤ 2) : INV n (s_hold F a b q) (s_ct ct F a b q) (K + 2) := by
  rw [hold_mb F q hab]
  obtain ⟨x, x1, x2, ex⟩ := thenN F a b (nI (500 * q))
  obtain ⟨y, y1, y2, ey⟩ := thenN F b a (nI (500 * (2 - q)))
  unfold s_mb
  rw [ex, ey]
  have h' : INV n (s_set (s_set F a (nI x)) b (nI y)) ct K := (h.set x1 x2).set y1 y2
  revert h'
  generalize s_set (s_set F a (nI x)) b (nI y) = G
  intro h'
  obtain ⟨⟨h0, g1⟩, g2, ⟨B, U, b1, b2, b3, b4, b5⟩, g4, g5⟩ := h'
  obtain ⟨p2, p3, p4⟩ := smN_note (q := q) ha (show K ≤ 1000 by omega) hq (g1 a ha)
  obtain ⟨r2, r3, r4⟩ := smN_note (F := s_note G a q) (q := 2 - q) hb (show K + 1 ≤ 1000 by omega) (by omega) ((g1 b hb).note hq)
  obtain ⟨v, hv, ev⟩ := up01 (s_up F a b (nI q))
  refine ⟨⟨h0, fun i hi => ((g1 i hi).note hq).note (by omega)⟩, fun i k i1 k1 k2 => by rw [note_o (by omega), note_o (by omega)]; exact g2 i k i1 k1 k2, ⟨B + 1, U + v, ?_, ?_, by omega, by omega, by omega⟩, by omega, by omega⟩
  · unfold s_ct; rw [pk_us, b1, nI_1]
  · unfold s_ct; rw [pk_un (by decide), pk_us, b2, ev, nI_add]
/-! the end of a season -/
theorem drift_st {F : Nat → Nat → Int32} {m : Nat} : s_driftU F (m + 1) = (if (3 : Int32) ≤ (s_driftU F m) 4 m then s_driftU F m else s_set (s_driftU F m) m ((s_driftU F m) 1 m - ((s_driftU F m) 1 m - 1000) / 8)) := rfl
theorem INV.drift {n : Nat} {F : Nat → Nat → Int32} {ct : Nat → Int32} {K : Nat} (h : INV n F ct K) : ∀ m, m ≤ n → INV n (s_driftU F m) ct K
  | 0, _ => h
  | m + 1, hm => by
    have ih := h.drift m (by omega)
    rw [drift_st]
    split
    · exact ih
    · obtain ⟨r, r1, r2, er⟩ := ih.okR m (by omega)
      rw [er]
      obtain ⟨y, y1, y2, ey⟩ := drR r1 r2
      rw [ey]
      exact ih.set y1 y2
theorem exch_0 (n : Nat) (F : Nat → Nat → Int32) (p : Int32) (i : Nat) : s_exch n F p 0 i = F 0 i ∨ s_exch n F p 0 i = p ∨ s_exch n F p 0 i = p + 1 := by
  unfold s_exch
  cases s_at n F p (nI (s_many n F p)) with
  | none => exact Or.inl rfl
  | some a =>
    cases s_at n F (p + 1) 1 with
    | none => exact Or.inl rfl
    | some b =>
      show (if F 2 a < F 2 b then pu (pu F 0 a (p + 1)) 0 b p else F) 0 i = F 0 i ∨ (if F 2 a < F 2 b then pu (pu F 0 a (p + 1)) 0 b p else F) 0 i = p ∨ (if F 2 a < F 2 b then pu (pu F 0 a (p + 1)) 0 b p else F) 0 i = p + 1
      by_cases c : F 2 a < F 2 b
      · rw [if_pos c, pu_app, pu_app]
        by_cases c1 : (0 : Nat) = 0 ∧ i = b
        · rw [if_pos c1]; exact Or.inr (Or.inl rfl)
        · rw [if_neg c1]
          by_cases c2 : (0 : Nat) = 0 ∧ i = a
          · rw [if_pos c2]; exact Or.inr (Or.inr rfl)
          · rw [if_neg c2]; exact Or.inl rfl
      · rw [if_neg c]; exact Or.inl rfl
theorem INV.exch {n : Nat} {F : Nat → Nat → Int32} {ct : Nat → Int32} {K p : Nat} (h : INV n F ct K) (hp : p < 2) : INV n (s_exch n F (nI p)) ct K := by
  have e : ∀ k i, k ≠ 0 → s_exch n F (nI p) k i = F k i := fun k i hk => exch_app n F (nI p) k i hk
  have sm : ∀ k, k ≠ 0 → smN (s_exch n F (nI p)) k n = smN F k n := fun k k1 => smN_cong (fun i _ => e k i k1)
  obtain ⟨⟨h0, g1⟩, g2, ⟨B, U, b1, b2, b3, b4, b5⟩, g4, g5⟩ := h
  refine ⟨⟨h0, fun i hi => ?_⟩, fun i k i1 k1 k2 => by rw [e k i (by omega)]; exact g2 i k i1 k1 k2, ⟨B, U, b1, b2, b3, b4, by rw [sm 3 (by decide)]; exact b5⟩, by rw [sm 2 (by decide), sm 4 (by decide)]; exact g4, by rw [sm 4 (by decide)]; exact g5⟩
  obtain ⟨g, r, p', b, s, u, m, e0, e1, e2, e3, e4, e5, e6, q1, q2⟩ := g1 i hi
  have hg : ∃ g' : Nat, g' < 3 ∧ s_exch n F (nI p) 0 i = nI g' := by
    rcases exch_0 n F (nI p) i with q | q | q
    · exact ⟨g, q1, q.trans e0⟩
    · exact ⟨p, by omega, q⟩
    · exact ⟨p + 1, by omega, q.trans (nI_1 p)⟩
  obtain ⟨g', hg1, hg2⟩ := hg
  exact ⟨g', r, p', b, s, u, m, hg2, by rw [e 1 i (by decide)]; exact e1, by rw [e 2 i (by decide)]; exact e2, by rw [e 3 i (by decide)]; exact e3, by rw [e 4 i (by decide)]; exact e4, by rw [e 5 i (by decide)]; exact e5, by rw [e 6 i (by decide)]; exact e6, hg1, q2⟩
theorem INV.endU {n : Nat} {F : Nat → Nat → Int32} {ct : Nat → Int32} {K : Nat} (h : INV n F ct K) : ∀ m, m ≤ 2 → INV n (s_endU n F m).1 ct K
  | 0, _ => h
  | m + 1, hm => by
    rw [s_endU_s]
    exact (h.endU m (by omega)).exch (by omega)
theorem clear_app (F : Nat → Nat → Int32) : ∀ m k i, s_clearU F m k i = if (k = 2 ∨ k = 4) ∧ i < m then 0 else F k i
  | 0, k, i => by rw [if_neg (by omega)]; rfl
  | m + 1, k, i => by
    show pu (pu (s_clearU F m) 2 m 0) 4 m 0 k i = _
    rw [pu_app, pu_app, clear_app F m k i]
    by_cases h4 : k = 4 ∧ i = m
    · rw [if_pos h4, if_pos (by omega)]
    · rw [if_neg h4]
      by_cases h2 : k = 2 ∧ i = m
      · rw [if_pos h2, if_pos (by omega)]
      · rw [if_neg h2]
        by_cases h : (k = 2 ∨ k = 4) ∧ i < m
        · rw [if_pos h, if_pos (by omega)]
        · rw [if_neg h, if_neg (by omega)]
theorem smN_0 {F : Nat → Nat → Int32} {k : Nat} : ∀ {n : Nat}, (∀ i, i < n → F k i = 0) → smN F k n = 0
  | 0, _ => rfl
  | n + 1, h => by rw [smN_s, h n (by omega), smN_0 (fun i hi => h i (by omega))]; rfl
theorem INV.clear {n : Nat} {F : Nat → Nat → Int32} {ct ct' : Nat → Int32} {K : Nat} (h : INV n F ct K) (c1 : ct' 1 = ct 1) (c2 : ct' 2 = ct 2) : INV n (s_clear n F) ct' K := by
  have e : ∀ k i, k ≠ 2 → k ≠ 4 → s_clear n F k i = F k i := fun k i k1 k2 => by show s_clearU F n k i = _; rw [clear_app, if_neg (by omega)]
  have z : ∀ k i, (k = 2 ∨ k = 4) → i < n → s_clear n F k i = 0 := fun k i k1 k2 => by show s_clearU F n k i = _; rw [clear_app, if_pos ⟨k1, k2⟩]
  obtain ⟨⟨h0, g1⟩, g2, ⟨B, U, b1, b2, b3, b4, b5⟩, g4, g5⟩ := h
  refine ⟨⟨h0, fun i hi => ?_⟩, fun i k i1 k1 k2 => ?_, ⟨B, U, by rw [c1]; exact b1, by rw [c2]; exact b2, b3, b4, by rw [smN_cong (fun i _ => e 3 i (by decide) (by decide))]; exact b5⟩, ?_, ?_⟩
  · obtain ⟨g, r, p', b, s, u, m, e0, e1, e2, e3, e4, e5, e6, q1, q2, q3, q4, q5, q6, q7, q8, q9⟩ := g1 i hi
    exact ⟨g, r, 0, b, 0, u, m, by rw [e 0 i (by decide) (by decide)]; exact e0, by rw [e 1 i (by decide) (by decide)]; exact e1, z 2 i (Or.inl rfl) hi, by rw [e 3 i (by decide) (by decide)]; exact e3, z 4 i (Or.inr rfl) hi, by rw [e 5 i (by decide) (by decide)]; exact e5, by rw [e 6 i (by decide) (by decide)]; exact e6, q1, q2, q3, q4, q5, by omega, by omega, q8, q9⟩
  · show s_clearU F n k i = 0
    rw [clear_app]
    split
    · rfl
    · exact g2 i k i1 k1 k2
  · rw [smN_0 (fun i hi => z 2 i (Or.inl rfl) hi), smN_0 (fun i hi => z 4 i (Or.inr rfl) hi)]
  · rw [smN_0 (fun i hi => z 4 i (Or.inr rfl) hi)]
theorem INV.fin {n : Nat} {F : Nat → Nat → Int32} {ct : Nat → Int32} {K : Nat} (h : INV n F ct K) : INV n (s_clear n (s_endU n (s_drift n F) 2).1) (upd ct 0 (ct 0 + 1)) K :=
  ((h.drift n (Nat.le_refl n)).endU 2 (Nat.le_refl 2)).clear (by rw [pk_un (by decide)]) (by rw [pk_un (by decide)])
