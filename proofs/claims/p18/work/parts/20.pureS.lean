/-! Pure facts for the Sim: its order of a league, its match, its next. -/
theorem ahead_asym {F : Nat → Nat → Int32} {a b : Nat} (h : ahead F a b = true) : ahead F b a = false := by
  cases h2 : ahead F b a with
  | false => rfl
  | true => exact absurd ((ahead_self F a).symm.trans (ahead_trans h h2)) (by decide)
theorem rk_inj {n : Nat} {F : Nat → Nat → Int32} {g : Int32} {a b : Nat} (ha : a < n) (hb : b < n) (ga : F 0 a = g) (gb : F 0 b = g) (h : fb_ct (s_rkP F g a) n = fb_ct (s_rkP F g b) n) : a = b := by
  by_cases e : a = b
  · exact e
  · rcases ahead_or (F := F) e with q | q
    · have := rk_mono ha ga q; omega
    · have := rk_mono hb gb q; omega
/-- the array of a league's order behind the first i wrestlers -/
def ORDI (F : Nat → Nat → Int32) (g : Int32) (i c : Nat) (f : Nat → Int32) : Prop := c = s_manyU F g i ∧ ∀ j, j < c → ∃ w, w < i ∧ f j = nI w ∧ F 0 w = g ∧ fb_ct (s_rkP F g w) i = j
/-- under way to put i into its place -/
def INS (F : Nat → Nat → Int32) (i c at' : Nat) (f0 f : Nat → Int32) : Prop := at' ≤ c ∧ (∀ j, j < at' → f j = f0 j) ∧ (∀ j, at' < j → j ≤ c → f j = f0 (j - 1)) ∧ ∀ j, at' ≤ j → j < c → ∃ w, w < i ∧ f0 j = nI w ∧ ahead F i w = true
theorem ORDI.pos {F : Nat → Nat → Int32} {g : Int32} {i c : Nat} {f : Nat → Int32} (h : ORDI F g i c f) {k : Nat} (hk : k < i) (gk : F 0 k = g) : fb_ct (s_rkP F g k) i < c ∧ f (fb_ct (s_rkP F g k) i) = nI k := by
  have h1 : fb_ct (s_rkP F g k) i < c := by rw [h.1, many_ct]; exact rk_lt hk gk
  obtain ⟨w, w1, w2, w3, w4⟩ := h.2 _ h1
  rw [rk_inj w1 hk w3 gk w4] at w2
  exact ⟨h1, w2⟩
theorem rk_succ {F : Nat → Nat → Int32} {g : Int32} {i : Nat} (hg : F 0 i = g) (w : Nat) : fb_ct (s_rkP F g w) (i + 1) = fb_ct (s_rkP F g w) i + (if ahead F i w = true then 1 else 0) := by
  rw [fb_ct_succ]
  unfold s_rkP
  rw [decide_eq_true hg, Bool.true_and]
theorem rk_skip {F : Nat → Nat → Int32} {g : Int32} {i : Nat} (hg : ¬ F 0 i = g) (w : Nat) : fb_ct (s_rkP F g w) (i + 1) = fb_ct (s_rkP F g w) i := by
  rw [fb_ct_succ]
  unfold s_rkP
  rw [decide_eq_false hg, Bool.false_and, if_neg (by decide), Nat.add_zero]
theorem ORDI.zero (F : Nat → Nat → Int32) (g : Int32) (f : Nat → Int32) : ORDI F g 0 0 f := ⟨rfl, fun j h => absurd h (Nat.not_lt_zero j)⟩
theorem ORDI.skip {F : Nat → Nat → Int32} {g : Int32} {i c : Nat} {f : Nat → Int32} (h : ORDI F g i c f) (hg : ¬ F 0 i = g) : ORDI F g (i + 1) c f := by
  refine ⟨?_, fun j hj => ?_⟩
  · show c = (if F 0 i = g then s_manyU F g i + 1 else s_manyU F g i)
    rw [if_neg hg, ← h.1]
  · obtain ⟨w, w1, w2, w3, w4⟩ := h.2 j hj
    exact ⟨w, by omega, w2, w3, by rw [rk_skip hg, w4]⟩
theorem INS.start {F : Nat → Nat → Int32} {i c : Nat} {f : Nat → Int32} : INS F i c c f f := ⟨Nat.le_refl c, fun _ _ => rfl, fun j h1 h2 => absurd h1 (by omega), fun j h1 h2 => absurd h1 (by omega)⟩
theorem INS.step {F : Nat → Nat → Int32} {i c k w : Nat} {f0 f : Nat → Int32} (h : INS F i c (k + 1) f0 f) (hw : w < i) (e : f0 k = nI w) (ha : ahead F i w = true) : INS F i c k f0 (upd f (k + 1) (f k)) := by
  obtain ⟨h1, h2, h3, h4⟩ := h
  refine ⟨by omega, fun j hj => ?_, fun j j1 j2 => ?_, fun j j1 j2 => ?_⟩
  · rw [pk_un (by omega)]; exact h2 j (by omega)
  · by_cases q : j = k + 1
    · subst q; rw [pk_us]; exact h2 k (by omega)
    · rw [pk_un q]; exact h3 j (by omega) j2
  · by_cases q : j = k
    · subst q; exact ⟨w, hw, e, ha⟩
    · exact h4 j (by omega) j2
theorem ORDI.cnt {F : Nat → Nat → Int32} {g : Int32} {i c k : Nat} {f0 f : Nat → Int32} (hi : i < 12) (h : ORDI F g i c f0) (hJ : INS F i c k f0 f) (hx : k = 0 ∨ ∃ w, 0 < k ∧ w < i ∧ f0 (k - 1) = nI w ∧ ahead F i w = false) : fb_ct (s_rkP F g i) i = k := by
  obtain ⟨h1, h2, h3, h4⟩ := hJ
  have beh : ∀ v, v < i → F 0 v = g → k ≤ fb_ct (s_rkP F g v) i → ahead F v i = false := by
    intro v hv gv hk
    obtain ⟨p1, p2⟩ := h.pos hv gv
    obtain ⟨w, w1, w2, w3⟩ := h4 _ hk p1
    have e : v = w := (nI_eq (by omega) (by omega)).mp (p2.symm.trans w2)
    rw [e]; exact ahead_asym w3
  rcases hx with h0 | ⟨w, k0, hw, e0, hn⟩
  · rw [h0, fb_ct_zero]
    intro v hv
    unfold s_rkP
    by_cases gv : F 0 v = g
    · rw [beh v hv gv (by omega), Bool.and_false]
    · rw [decide_eq_false gv, Bool.false_and]
  · obtain ⟨w', v1, v2, v3, v4⟩ := h.2 (k - 1) (by omega)
    have e : w = w' := (nI_eq (by omega) (by omega)).mp (e0.symm.trans v2)
    subst e
    have hwi : ahead F w i = true := by
      rcases ahead_or (F := F) (show w ≠ i by omega) with q | q
      · exact q
      · rw [hn] at q; exact absurd q (by decide)
    have hc : fb_ct (s_rkP F g i) i = fb_ct (fun v => if v = w then true else s_rkP F g w v) i := by
      apply fb_ct_cong
      intro v hv
      by_cases hvw : v = w
      · rw [if_pos hvw, hvw]; unfold s_rkP; rw [decide_eq_true v3, hwi]; rfl
      · rw [if_neg hvw]
        unfold s_rkP
        by_cases gv : F 0 v = g
        · rw [decide_eq_true gv, Bool.true_and, Bool.true_and]
          cases q : ahead F v w with
          | true => exact ahead_trans q hwi
          | false =>
            have q2 : ahead F w v = true := (ahead_or (F := F) hvw).resolve_left (by rw [q]; decide)
            have q3 := rk_mono (g := g) hw v3 q2
            exact beh v hv gv (by omega)
        · rw [decide_eq_false gv, Bool.false_and, Bool.false_and]
    have hu := fb_ct_upd (s_rkP F g w) true hw
    rw [if_neg (show ¬ s_rkP F g w w = true by unfold s_rkP; rw [ahead_self, Bool.and_false]; decide), if_pos rfl, v4] at hu
    rw [hc]
    omega
theorem ORDI.ins {F : Nat → Nat → Int32} {g : Int32} {i c k : Nat} {f0 f : Nat → Int32} (hi : i < 12) (hg : F 0 i = g) (h : ORDI F g i c f0) (hJ : INS F i c k f0 f) (hx : k = 0 ∨ ∃ w, 0 < k ∧ w < i ∧ f0 (k - 1) = nI w ∧ ahead F i w = false) : ORDI F g (i + 1) (c + 1) (upd f k (nI i)) := by
  have hcnt := ORDI.cnt hi h hJ hx
  obtain ⟨h1, h2, h3, h4⟩ := hJ
  refine ⟨?_, fun j hj => ?_⟩
  · show c + 1 = (if F 0 i = g then s_manyU F g i + 1 else s_manyU F g i)
    rw [if_pos hg, ← h.1]
  · rcases Nat.lt_trichotomy j k with q | q | q
    · obtain ⟨w, w1, w2, w3, w4⟩ := h.2 j (by omega)
      refine ⟨w, by omega, by rw [pk_un (by omega), h2 j q, w2], w3, ?_⟩
      rw [rk_succ hg, w4]
      rw [if_neg ?_, Nat.add_zero]
      intro z
      rcases hx with h0 | ⟨v, k0, hv, e0, hn⟩
      · omega
      · obtain ⟨v', v1, v2, v3, v4⟩ := h.2 (k - 1) (by omega)
        have e : v = v' := (nI_eq (by omega) (by omega)).mp (e0.symm.trans v2)
        subst e
        by_cases hwv : w = v
        · rw [hwv, hn] at z; exact absurd z (by decide)
        · rcases ahead_or (F := F) hwv with y | y
          · have := ahead_trans z y; rw [hn] at this; exact absurd this (by decide)
          · have := rk_mono (g := g) v1 v3 y; omega
    · subst q
      refine ⟨i, by omega, pk_us, hg, ?_⟩
      rw [rk_succ hg, hcnt, ahead_self, if_neg (by decide), Nat.add_zero]
    · obtain ⟨w, w1, w2, w3, w4⟩ := h.2 (j - 1) (by omega)
      obtain ⟨v, v1, v2, v3⟩ := h4 (j - 1) (by omega) (by omega)
      have e : w = v := (nI_eq (by omega) (by omega)).mp (w2.symm.trans v2)
      subst e
      refine ⟨w, by omega, by rw [pk_un (by omega), h3 j q (by omega), w2], w3, ?_⟩
      rw [rk_succ hg, w4, if_pos v3]
      omega
/-- a league's order, whole -/
def ORD (n : Nat) (F : Nat → Nat → Int32) (g : Int32) (f : Nat → Int32) : Prop := ∀ j, j < s_many n F g → ∃ w, w < n ∧ f j = nI w ∧ F 0 w = g ∧ s_place n F w = j + 1 ∧ s_at n F g (nI (j + 1)) = some w
theorem many_le (F : Nat → Nat → Int32) (g : Int32) (m : Nat) : s_manyU F g m ≤ m := by rw [many_ct]; exact fb_ct_le _ m
theorem at_place {n : Nat} (hn : n ≤ 12) {F : Nat → Nat → Int32} {w : Nat} (hw : w < n) : s_at n F (F 0 w) (nI (s_place n F w)) = some w := by
  have e1 : s_place n F w = 1 + fb_ct (s_rkP F (F 0 w) w) n := place_ct rfl n
  have e2 := rk_lt (F := F) hw rfl
  have e3 := many_le F (F 0 w) n
  have e4 : s_manyU F (F 0 w) n = fb_ct (s_mem F (F 0 w)) n := many_ct _ _ _
  have hin : s_in (nI (s_place n F w)) 1 (nI (s_many n F (F 0 w))) = true := by
    unfold s_in s_many
    rw [if_neg (show ¬ nI (s_place n F w) < 1 from nI_nlt (a := s_place n F w) (b := 1) (by omega) (by omega)), if_neg (nI_nlt (by omega) (by omega))]
  obtain ⟨k, hk⟩ := at_in hn hin
  obtain ⟨k1, k2, k3⟩ := s_at_lt n k hk
  have e5 : s_place n F k = 1 + fb_ct (s_rkP F (F 0 w) k) n := place_ct k2 n
  have e6 := rk_lt (F := F) k1 k2
  have e7 : s_place n F k = s_place n F w := (nI_eq (by omega) (by omega)).mp k3
  rw [hk, rk_inj k1 hw k2 rfl (by omega)]
theorem ORDI.whole {n c : Nat} (hn : n ≤ 12) {F : Nat → Nat → Int32} {g : Int32} {f : Nat → Int32} (h : ORDI F g n c f) : ORD n F g f := by
  intro j hj
  obtain ⟨w, w1, w2, w3, w4⟩ := h.2 j (by rw [h.1]; exact hj)
  have e1 : s_place n F w = 1 + fb_ct (s_rkP F g w) n := place_ct w3 n
  refine ⟨w, w1, w2, w3, by omega, ?_⟩
  have := at_place hn (F := F) w1
  rw [w3, show s_place n F w = j + 1 by omega] at this
  exact this
theorem at_empty {n : Nat} (hn : n ≤ 12) {F : Nat → Nat → Int32} {g q : Int32} (h : s_many n F g = 0) : s_at n F g q = none := by
  apply at_out hn
  rw [h]
  unfold s_in
  by_cases c : q < 1
  · rw [if_pos c]
  · rw [if_neg c, if_pos ?_]
    exact Int32.lt_of_lt_of_le (show nI 0 < 1 by decide) (Int32.not_lt.mp c)
/-- is w behind m, who has the higher number -/
theorem ahead_hi {F : Nat → Nat → Int32} {i w : Nat} (hw : w < i) : ahead F i w = true ↔ (F 2 w < F 2 i ∨ (F 2 w = F 2 i ∧ F 1 w < F 1 i)) := by
  rw [ahead_iff, Int32.lt_iff_toInt_lt, Int32.lt_iff_toInt_lt, ← Int32.toInt_inj]
  omega
/-! match -/
def MM (F : Nat → Nat → Int32) (w lo hi : Nat) (o : Option Nat) : Prop := match o with
  | none => ∀ k, lo ≤ k → k < hi → k ≠ w → ¬ F 0 k = F 0 w
  | some b => (lo ≤ b ∧ b < hi ∧ b ≠ w ∧ F 0 b = F 0 w) ∧ ∀ k, lo ≤ k → k < hi → k ≠ w → F 0 k = F 0 w → s_off F b w ≤ s_off F k w ∧ (k < b → ¬ s_off F k w ≤ s_off F b w)
theorem MM_asc (F : Nat → Nat → Int32) (w : Nat) : ∀ m, MM F w 0 m (s_matchU F w m)
  | 0 => fun k _ h => absurd h (Nat.not_lt_zero k)
  | m + 1 => by
    have ih := MM_asc F w m
    show MM F w 0 (m + 1) (if m = w then s_matchU F w m else if F 0 m = F 0 w then (match s_matchU F w m with | none => some m | some b => if s_off F b w ≤ s_off F m w then some b else some m) else s_matchU F w m)
    by_cases skip : m = w ∨ ¬ F 0 m = F 0 w
    · have e : (if m = w then s_matchU F w m else if F 0 m = F 0 w then (match s_matchU F w m with | none => some m | some b => if s_off F b w ≤ s_off F m w then some b else some m) else s_matchU F w m) = s_matchU F w m := by
        rcases skip with q | q
        · rw [if_pos q]
        · rw [if_neg q]; simp
      rw [e]
      revert ih
      cases s_matchU F w m with
      | none =>
        intro ih k k1 k2 k3 k4
        by_cases q : k = m
        · subst q; exact skip.elim k3 (fun z => z k4)
        · exact ih k k1 (by omega) k3 k4
      | some b =>
        intro ih
        obtain ⟨⟨b1, b2, b3, b4⟩, h⟩ := ih
        refine ⟨⟨b1, by omega, b3, b4⟩, fun k k1 k2 k3 k4 => ?_⟩
        by_cases q : k = m
        · subst q; exact (skip.elim k3 (fun z => z k4)).elim
        · exact h k k1 (by omega) k3 k4
    · have c1 : ¬ m = w := fun q => skip (Or.inl q)
      have c2 : F 0 m = F 0 w := Decidable.not_not.mp (fun q => skip (Or.inr q))
      rw [if_neg c1, if_pos c2]
      revert ih
      cases s_matchU F w m with
      | none =>
        intro ih
        refine ⟨⟨Nat.zero_le _, by omega, c1, c2⟩, fun k k1 k2 k3 k4 => ?_⟩
        by_cases q : k = m
        · subst q; exact ⟨Int32.le_refl _, fun z => absurd z (by omega)⟩
        · exact absurd k4 (ih k k1 (by omega) k3)
      | some b =>
        intro ih
        obtain ⟨⟨b1, b2, b3, b4⟩, h⟩ := ih
        show MM F w 0 (m + 1) (if s_off F b w ≤ s_off F m w then some b else some m)
        by_cases c3 : s_off F b w ≤ s_off F m w
        · rw [if_pos c3]
          refine ⟨⟨b1, by omega, b3, b4⟩, fun k k1 k2 k3 k4 => ?_⟩
          by_cases q : k = m
          · subst q; exact ⟨c3, fun z => absurd z (by omega)⟩
          · exact h k k1 (by omega) k3 k4
        · rw [if_neg c3]
          refine ⟨⟨Nat.zero_le _, by omega, c1, c2⟩, fun k k1 k2 k3 k4 => ?_⟩
          by_cases q : k = m
          · subst q; exact ⟨Int32.le_refl _, fun z => absurd z (by omega)⟩
          · obtain ⟨g1, g2⟩ := h k k1 (by omega) k3 k4
            have g3 : s_off F m w ≤ s_off F b w := i32_le_of_not c3
            exact ⟨Int32.le_trans g3 g1, fun _ z => c3 (Int32.le_trans g1 z)⟩
theorem MM_one {F : Nat → Nat → Int32} {w lo hi : Nat} : ∀ {o o' : Option Nat}, MM F w lo hi o → MM F w lo hi o' → o = o'
  | none, none, _, _ => rfl
  | none, some b, h, h' => absurd h'.1.2.2.2 (h b h'.1.1 h'.1.2.1 h'.1.2.2.1)
  | some b, none, h, h' => absurd h.1.2.2.2 (h' b h.1.1 h.1.2.1 h.1.2.2.1)
  | some b, some b', h, h' => by
    rcases Nat.lt_trichotomy b b' with q | q | q
    · have g1 := (h.2 b' h'.1.1 h'.1.2.1 h'.1.2.2.1 h'.1.2.2.2).1
      exact absurd g1 ((h'.2 b h.1.1 h.1.2.1 h.1.2.2.1 h.1.2.2.2).2 q)
    · rw [q]
    · have g1 := (h'.2 b h.1.1 h.1.2.1 h.1.2.2.1 h.1.2.2.2).1
      exact absurd g1 ((h.2 b' h'.1.1 h'.1.2.1 h'.1.2.2.1 h'.1.2.2.2).2 q)
theorem MM_end {F : Nat → Nat → Int32} {w n : Nat} (o : Option Nat) : MM F w n n o → o = none := by
  cases o with
  | none => intro _; rfl
  | some b => intro h; exact absurd h.1.2.1 (by have := h.1.1; omega)
theorem MM_nil (F : Nat → Nat → Int32) (w n : Nat) : MM F w n n none := fun k h1 h2 => absurd h1 (by omega)
theorem MM_skip {F : Nat → Nat → Int32} {w k n : Nat} (skip : k = w ∨ ¬ F 0 k = F 0 w) : ∀ {o : Option Nat}, MM F w (k + 1) n o → MM F w k n o
  | none, h => fun j j1 j2 j3 j4 => by
    by_cases q : j = k
    · subst q; exact skip.elim j3 (fun z => z j4)
    · exact h j (by omega) j2 j3 j4
  | some b, h => ⟨⟨by have := h.1.1; omega, h.1.2⟩, fun j j1 j2 j3 j4 => by
    by_cases q : j = k
    · subst q; exact (skip.elim j3 (fun z => z j4)).elim
    · exact h.2 j (by omega) j2 j3 j4⟩
theorem MM_first {F : Nat → Nat → Int32} {w k n : Nat} (h : MM F w (k + 1) n none) (hk : k < n) (c1 : ¬ k = w) (c2 : F 0 k = F 0 w) : MM F w k n (some k) :=
  ⟨⟨Nat.le_refl k, hk, c1, c2⟩, fun j j1 j2 j3 j4 => by
    by_cases q : j = k
    · subst q; exact ⟨Int32.le_refl _, fun z => absurd z (by omega)⟩
    · exact absurd j4 (h j (by omega) j2 j3)⟩
theorem MM_take {F : Nat → Nat → Int32} {w k n b : Nat} (h : MM F w (k + 1) n (some b)) (hk : k < n) (c1 : ¬ k = w) (c2 : F 0 k = F 0 w) (c : ¬ s_off F b w < s_off F k w) : MM F w k n (some k) :=
  ⟨⟨Nat.le_refl k, hk, c1, c2⟩, fun j j1 j2 j3 j4 => by
    by_cases q : j = k
    · subst q; exact ⟨Int32.le_refl _, fun z => absurd z (by omega)⟩
    · exact ⟨Int32.le_trans (Int32.not_lt.mp c) (h.2 j (by omega) j2 j3 j4).1, fun z => absurd z (by omega)⟩⟩
theorem MM_keep {F : Nat → Nat → Int32} {w k n b : Nat} (h : MM F w (k + 1) n (some b)) (c : s_off F b w < s_off F k w) : MM F w k n (some b) :=
  ⟨⟨by have := h.1.1; omega, h.1.2⟩, fun j j1 j2 j3 j4 => by
    by_cases q : j = k
    · subst q; exact ⟨Int32.le_of_lt c, fun _ => Int32.not_le.mpr c⟩
    · exact h.2 j (by omega) j2 j3 j4⟩
theorem MM_whole {F : Nat → Nat → Int32} {w n : Nat} {o : Option Nat} (h : MM F w 0 n o) : o = s_match n F w := MM_one h (MM_asc F w n)
/-! next -/
def hd4 (F : Nat → Nat → Int32) (a b : Nat) : Int := (F 4 a + F 4 b).toInt
def of4 (F : Nat → Nat → Int32) (a b : Nat) : Int := (s_off F a b).toInt
def NX (n : Nat) (F : Nat → Nat → Int32) (P : Nat → Nat → Prop) (T : Int32 × Int32 × Int32) : Prop := (T.1 = -1 ∧ ∀ a b, a < b → b < n → P a b → ¬ F 0 a = F 0 b) ∨ ∃ a b, a < b ∧ b < n ∧ P a b ∧ F 0 a = F 0 b ∧ T = (nI a * 12 + nI b, F 4 a + F 4 b, s_off F a b) ∧
  ∀ c d, c < d → d < n → P c d → F 0 c = F 0 d → (hd4 F a b < hd4 F c d ∨ (hd4 F a b = hd4 F c d ∧ of4 F a b ≤ of4 F c d)) ∧ ((c < a ∨ (c = a ∧ d < b)) → (hd4 F a b < hd4 F c d ∨ (hd4 F a b = hd4 F c d ∧ of4 F a b < of4 F c d)))
theorem NX.congr {n : Nat} {F : Nat → Nat → Int32} {P P' : Nat → Nat → Prop} {T : Int32 × Int32 × Int32} (h : NX n F P T) (e : ∀ a b, a < b → b < n → (P a b ↔ P' a b)) : NX n F P' T := by
  rcases h with ⟨h1, h2⟩ | ⟨a, b, h1, h2, h3, h4, h5, h6⟩
  · exact Or.inl ⟨h1, fun a b a1 a2 a3 => h2 a b a1 a2 ((e a b a1 a2).mpr a3)⟩
  · exact Or.inr ⟨a, b, h1, h2, (e a b h1 h2).mp h3, h4, h5, fun c d c1 c2 c3 => h6 c d c1 c2 ((e c d c1 c2).mpr c3)⟩
theorem NX.one {n : Nat} (hn : n ≤ 12) {F : Nat → Nat → Int32} {P : Nat → Nat → Prop} {T T' : Int32 × Int32 × Int32} (h : NX n F P T) (h' : NX n F P T') : T.1 = T'.1 := by
  rcases h with ⟨h1, h2⟩ | ⟨a, b, h1, h2, h3, h4, h5, h6⟩ <;> rcases h' with ⟨g1, g2⟩ | ⟨a', b', g1, g2, g3, g4, g5, g6⟩
  · rw [h1, g1]
  · exact absurd g4 (h2 a' b' g1 g2 g3)
  · exact absurd h4 (g2 a b h1 h2 h3)
  · have k1 := h6 a' b' g1 g2 g3 g4
    have k2 := g6 a b h1 h2 h3 h4
    have : a = a' ∧ b = b' := by omega
    rw [h5, g5, this.1, this.2]
theorem m1_ne {a b n : Nat} (hab : a < b) (hb : b < n) (hn : n ≤ 12) : ¬ nI a * 12 + nI b = -1 := by
  rw [show (12 : Int32) = nI 12 from rfl, pk_mul, nI_add]
  exact nI_m1 (by omega)
/-- one more pair, behind all others -/
theorem NX.asc {n : Nat} (hn : n ≤ 12) {F : Nat → Nat → Int32} {P : Nat → Nat → Prop} {T : Int32 × Int32 × Int32} {a b : Nat} (h : NX n F P T) (hab : a < b) (hb : b < n) (hP : ∀ c d, P c d → c < a ∨ (c = a ∧ d < b)) : NX n F (fun c d => P c d ∨ (c = a ∧ d = b)) (pairB F a b T) := by
  unfold pairB
  by_cases e : F 0 a = F 0 b
  · rw [if_pos e]
    by_cases c : T.1 = -1 ∨ F 4 a + F 4 b < T.2.1 ∨ (F 4 a + F 4 b = T.2.1 ∧ ¬ T.2.2 ≤ s_off F a b)
    · rw [if_pos c]
      refine Or.inr ⟨a, b, hab, hb, Or.inr ⟨rfl, rfl⟩, e, rfl, fun u v u1 u2 u3 u4 => ?_⟩
      rcases u3 with u3 | ⟨rfl, rfl⟩
      · rcases h with ⟨h1, h2⟩ | ⟨a', b', h1, h2, h3, h4, h5, h6⟩
        · exact absurd u4 (h2 u v u1 u2 u3)
        · have k := h6 u v u1 u2 u3 u4
          rw [h5] at c
          have c' := c.resolve_left (m1_ne h1 h2 hn)
          have c2 : hd4 F a b < hd4 F a' b' ∨ (hd4 F a b = hd4 F a' b' ∧ of4 F a b < of4 F a' b') := by
            rcases c' with z | ⟨z1, z2⟩
            · exact Or.inl (Int32.lt_iff_toInt_lt.mp z)
            · exact Or.inr ⟨congrArg Int32.toInt z1, Int32.lt_iff_toInt_lt.mp (Int32.not_le.mp z2)⟩
          omega
      · omega
    · rw [if_neg c]
      rcases h with ⟨h1, h2⟩ | ⟨a', b', h1, h2, h3, h4, h5, h6⟩
      · exact absurd (Or.inl h1) c
      · refine Or.inr ⟨a', b', h1, h2, Or.inl h3, h4, h5, fun u v u1 u2 u3 u4 => ?_⟩
        rcases u3 with u3 | ⟨rfl, rfl⟩
        · exact h6 u v u1 u2 u3 u4
        · have k := hP a' b' h3
          rw [h5] at c
          have z1 : ¬ F 4 u + F 4 v < F 4 a' + F 4 b' := fun z => c (Or.inr (Or.inl z))
          have z2 : F 4 u + F 4 v = F 4 a' + F 4 b' → s_off F a' b' ≤ s_off F u v := fun z => Decidable.not_not.mp (fun y => c (Or.inr (Or.inr ⟨z, y⟩)))
          have z3 : hd4 F a' b' ≤ hd4 F u v := Int32.le_iff_toInt_le.mp (Int32.not_lt.mp z1)
          have z4 : hd4 F u v = hd4 F a' b' → of4 F a' b' ≤ of4 F u v := fun z => Int32.le_iff_toInt_le.mp (z2 (Int32.toInt_inj.mp z))
          omega
  · rw [if_neg e]
    rcases h with ⟨h1, h2⟩ | ⟨a', b', h1, h2, h3, h4, h5, h6⟩
    · refine Or.inl ⟨h1, fun u v u1 u2 u3 => ?_⟩
      rcases u3 with u3 | ⟨rfl, rfl⟩
      · exact h2 u v u1 u2 u3
      · exact e
    · refine Or.inr ⟨a', b', h1, h2, Or.inl h3, h4, h5, fun u v u1 u2 u3 u4 => ?_⟩
      rcases u3 with u3 | ⟨rfl, rfl⟩
      · exact h6 u v u1 u2 u3 u4
      · exact absurd u4 e
theorem NX_I {n : Nat} (hn : n ≤ 12) {F : Nat → Nat → Int32} {a : Nat} {T : Int32 × Int32 × Int32} (h : NX n F (fun c _ => c < a) T) : ∀ m, m ≤ n → NX n F (fun c d => c < a ∨ (c = a ∧ d < m)) (s_pairI F a m T)
  | 0, _ => h.congr (fun c d _ _ => by omega)
  | m + 1, hm => by
    have ih := NX_I hn h m (by omega)
    show NX n F _ (if a < m then pairB F a m (s_pairI F a m T) else s_pairI F a m T)
    by_cases c : a < m
    · rw [if_pos c]
      exact (NX.asc hn ih c (by omega) (fun u v q => q)).congr (fun u v _ _ => by omega)
    · rw [if_neg c]
      exact ih.congr (fun u v h1 h2 => by omega)
theorem NX_U {n : Nat} (hn : n ≤ 12) (F : Nat → Nat → Int32) : ∀ m, NX n F (fun c _ => c < m) (s_pairU n F m)
  | 0 => Or.inl ⟨rfl, fun a b _ _ h => absurd h (Nat.not_lt_zero a)⟩
  | m + 1 => (NX_I hn (NX_U hn F m) n (Nat.le_refl n)).congr (fun u v h1 h2 => by omega)
theorem NX_next {n : Nat} (hn : n ≤ 12) {F : Nat → Nat → Int32} {P : Nat → Nat → Prop} {T : Int32 × Int32 × Int32} (h : NX n F P T) (hP : ∀ a b, a < b → b < n → P a b) : T.1 = s_next n F :=
  NX.one hn (h.congr (P' := fun c _ => c < n) (fun a b h1 h2 => ⟨fun _ => by omega, fun _ => hP a b h1 h2⟩)) (NX_U hn F n)
/-- one more pair, ahead of all others -/
theorem NX.des {n : Nat} (hn : n ≤ 12) {F : Nat → Nat → Int32} {P : Nat → Nat → Prop} {T : Int32 × Int32 × Int32} {a b : Nat} (h : NX n F P T) (hab : a < b) (hb : b < n) (hP : ∀ c d, P c d → a < c ∨ (a = c ∧ b < d)) (e : F 0 a = F 0 b) (c : T.1 = -1 ∨ (¬ T.2.1 < F 4 a + F 4 b ∧ (F 4 a + F 4 b = T.2.1 → ¬ T.2.2 < s_off F a b))) : NX n F (fun c d => P c d ∨ (c = a ∧ d = b)) (nI a * 12 + nI b, F 4 a + F 4 b, s_off F a b) := by
  refine Or.inr ⟨a, b, hab, hb, Or.inr ⟨rfl, rfl⟩, e, rfl, fun u v u1 u2 u3 u4 => ?_⟩
  rcases u3 with u3 | ⟨rfl, rfl⟩
  · rcases h with ⟨h1, h2⟩ | ⟨a', b', h1, h2, h3, h4, h5, h6⟩
    · exact absurd u4 (h2 u v u1 u2 u3)
    · have k := h6 u v u1 u2 u3 u4
      rw [h5] at c
      obtain ⟨z1, z2⟩ := c.resolve_left (m1_ne h1 h2 hn)
      have z3 : hd4 F a b ≤ hd4 F a' b' := Int32.le_iff_toInt_le.mp (Int32.not_lt.mp z1)
      have z4 : hd4 F a b = hd4 F a' b' → of4 F a b ≤ of4 F a' b' := fun z => Int32.le_iff_toInt_le.mp (Int32.not_lt.mp (z2 (Int32.toInt_inj.mp z)))
      have k2 := hP u v u3
      omega
  · omega
theorem NX.no {n : Nat} {F : Nat → Nat → Int32} {P : Nat → Nat → Prop} {T : Int32 × Int32 × Int32} {a b : Nat} (h : NX n F P T) (e : ¬ F 0 a = F 0 b) : NX n F (fun c d => P c d ∨ (c = a ∧ d = b)) T := by
  rcases h with ⟨h1, h2⟩ | ⟨a', b', h1, h2, h3, h4, h5, h6⟩
  · refine Or.inl ⟨h1, fun u v u1 u2 u3 => ?_⟩
    rcases u3 with u3 | ⟨rfl, rfl⟩
    · exact h2 u v u1 u2 u3
    · exact e
  · refine Or.inr ⟨a', b', h1, h2, Or.inl h3, h4, h5, fun u v u1 u2 u3 u4 => ?_⟩
    rcases u3 with u3 | ⟨rfl, rfl⟩
    · exact h6 u v u1 u2 u3 u4
    · exact absurd u4 e
theorem NX.worse {n : Nat} (hn : n ≤ 12) {F : Nat → Nat → Int32} {P : Nat → Nat → Prop} {T : Int32 × Int32 × Int32} {a b : Nat} (h : NX n F P T) (c0 : ¬ T.1 = -1) (c : T.2.1 < F 4 a + F 4 b ∨ (F 4 a + F 4 b = T.2.1 ∧ T.2.2 < s_off F a b)) : NX n F (fun c d => P c d ∨ (c = a ∧ d = b)) T := by
  rcases h with ⟨h1, h2⟩ | ⟨a', b', h1, h2, h3, h4, h5, h6⟩
  · exact absurd h1 c0
  · refine Or.inr ⟨a', b', h1, h2, Or.inl h3, h4, h5, fun u v u1 u2 u3 u4 => ?_⟩
    rcases u3 with u3 | ⟨rfl, rfl⟩
    · exact h6 u v u1 u2 u3 u4
    · rw [h5] at c
      have c2 : hd4 F a' b' < hd4 F u v ∨ (hd4 F u v = hd4 F a' b' ∧ of4 F a' b' < of4 F u v) := by
        rcases c with z | ⟨z1, z2⟩
        · exact Or.inl (Int32.lt_iff_toInt_lt.mp z)
        · exact Or.inr ⟨congrArg Int32.toInt z1, Int32.lt_iff_toInt_lt.mp z2⟩
      omega
