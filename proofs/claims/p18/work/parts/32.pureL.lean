/-! What the law asks, of the pure state. -/
theorem dN_0 {n : Nat} {F : Nat → Nat → Int32} (hR : okR n F) {a b : Nat} (ha : a < n) (hb : b < n) (h1 : F 1 b ≤ F 1 a) (h2 : F 1 a ≤ F 1 b) : dN (F 1 a) (F 1 b) = 0 := by
  obtain ⟨h3, h4⟩ := hR.le ha hb h1
  have e : F 1 a = F 1 b := Int32.le_antisymm h2 h1
  have h5 : nI (dN (F 1 a) (F 1 b)) = nI 0 := by rw [← h4, e, Int32.sub_self]; rfl
  exact (nI_eq (by omega) (by decide)).mp h5
theorem exp_eq {n : Nat} {F : Nat → Nat → Int32} (hR : okR n F) {a b : Nat} (ha : a < n) (hb : b < n) (h1 : F 1 b ≤ F 1 a) (h2 : F 1 a ≤ F 1 b) : s_exp F a b = 500 := by
  unfold s_exp
  rw [if_pos h1, dN_0 hR ha hb h1 h2]
  rfl
theorem exp_self {n : Nat} {F : Nat → Nat → Int32} (hR : okR n F) {k : Nat} (hk : k < n) : s_exp F k k = 500 := exp_eq hR hk hk (Int32.le_refl _) (Int32.le_refl _)
theorem exp_sum {n : Nat} {F : Nat → Nat → Int32} (hR : okR n F) {a b : Nat} (ha : a < n) (hb : b < n) : s_exp F a b + s_exp F b a = 1000 := by
  by_cases h1 : F 1 b ≤ F 1 a
  · by_cases h2 : F 1 a ≤ F 1 b
    · rw [exp_eq hR ha hb h1 h2, exp_eq hR hb ha h2 h1]; rfl
    · rw [← exp_neg (F := F) (a := b) (b := a) h2]; exact i32_asc _ _
  · rw [← exp_neg (F := F) (a := a) (b := b) h1]; exact Int32.sub_add_cancel _ _
theorem exp_le500 {n : Nat} {F : Nat → Nat → Int32} (hR : okR n F) {a b : Nat} (ha : a < n) (hb : b < n) (h : F 1 a ≤ F 1 b) : s_exp F a b ≤ 500 := by
  by_cases h1 : F 1 b ≤ F 1 a
  · rw [exp_eq hR ha hb h1 h]; exact Int32.le_refl _
  · obtain ⟨x, x1, x2, ex⟩ := exNN (mD_le (dA F a b))
    rw [s_exp_lt h1, ex, show (1000 : Int32) = nI 1000 from rfl, pk_sub (by omega)]
    exact nI_le (b := 500) (by omega) (by decide)
theorem exp_high {n : Nat} {F : Nat → Nat → Int32} (hR : okR n F) {a b : Nat} (ha : a < n) (hb : b < n) (h : ¬ s_exp F a b ≤ 500) : F 1 b < F 1 a := Int32.not_le.mp (fun q => h (exp_le500 hR ha hb q))
theorem pl_bd {n : Nat} (hn : n ≤ 12) {F : Nat → Nat → Int32} {k : Nat} (hk : k < n) : 1 ≤ s_place n F k ∧ s_place n F k ≤ s_many n F (F 0 k) ∧ s_many n F (F 0 k) ≤ n := by
  have e1 : s_place n F k = 1 + fb_ct (s_rkP F (F 0 k) k) n := place_ct rfl n
  have e2 := rk_lt (F := F) hk rfl
  have e3 := many_le F (F 0 k) n
  have e4 : s_manyU F (F 0 k) n = fb_ct (s_mem F (F 0 k)) n := many_ct _ _ _
  unfold s_many
  omega
theorem ahead_pl {n : Nat} (hn : n ≤ 12) {F : Nat → Nat → Int32} {g : Int32} {k o : Nat} (hk : k < n) (ho : o < n) (gk : F 0 k = g) (go : F 0 o = g) (hne : ¬ o = k) (c : ¬ nI (s_place n F o) ≤ nI (s_place n F k)) : ahead F k o = true := by
  rcases ahead_or (F := F) (show k ≠ o from fun q => hne q.symm) with q | q
  · exact q
  · exfalso
    have h1 := rk_mono (g := g) ho go q
    have e1 : s_place n F k = 1 + fb_ct (s_rkP F g k) n := place_ct gk n
    have e2 : s_place n F o = 1 + fb_ct (s_rkP F g o) n := place_ct go n
    have b1 := pl_bd hn (F := F) hk
    exact c (nI_le (by omega) (by omega))
theorem ahead_pts {F : Nat → Nat → Int32} {k o : Nat} (h : ahead F k o = true) : ¬ F 2 k < F 2 o := by
  rw [ahead_iff] at h
  intro q
  have := Int32.lt_iff_toInt_lt.mp q
  omega
theorem ahead_rat {F : Nat → Nat → Int32} {k o : Nat} (h : ahead F k o = true) (e : F 2 k = F 2 o) : ¬ F 1 k < F 1 o := by
  rw [ahead_iff] at h
  intro q
  have := Int32.lt_iff_toInt_lt.mp q
  have := congrArg Int32.toInt e
  omega
theorem ahead_num {F : Nat → Nat → Int32} {k o : Nat} (h : ahead F k o = true) (e : F 2 k = F 2 o) (e1 : F 1 k = F 1 o) : k < o := by
  rw [ahead_iff] at h
  have := congrArg Int32.toInt e
  have := congrArg Int32.toInt e1
  omega
theorem match_some {n : Nat} {F : Nat → Nat → Int32} {k b : Nat} (h : s_match n F k = some b) : b < n ∧ b ≠ k ∧ F 0 b = F 0 k := by
  have := MM_asc F k n
  rw [show s_matchU F k n = some b from h] at this
  exact this.1.2
theorem match_none {n : Nat} {F : Nat → Nat → Int32} {k : Nat} (hk : k < n) (h : s_match n F k = none) : s_many n F (F 0 k) = 1 := by
  have := MM_asc F k n
  rw [show s_matchU F k n = none from h] at this
  unfold s_many
  rw [many_ct]
  have hu := fb_ct_upd (s_mem F (F 0 k)) false hk
  rw [if_pos (show s_mem F (F 0 k) k = true from decide_eq_true rfl), if_neg (by decide)] at hu
  have h0 : fb_ct (fun j => if j = k then false else s_mem F (F 0 k) j) n = 0 := by
    rw [fb_ct_zero]
    intro j hj
    by_cases q : j = k
    · rw [if_pos q]
    · rw [if_neg q]; exact decide_eq_false (this j (Nat.zero_le _) hj q)
  omega
theorem mx_lt {m r : Nat} (h1 : 1000 ≤ m) (h2 : r ≤ m) (hm : m < 2 ^ 31) : ¬ nI m < (if (1000 : Int32) < nI r then nI r else 1000) := by
  split
  · exact nI_nlt h2 hm
  · exact nI_nlt (b := 1000) h1 hm
/-! places as bits -/
def plN (n : Nat) (F : Nat → Nat → Int32) (l k : Nat) : Nat := fo (fun i a => if F 0 i = nI l then a ||| 2 ^ s_place n F i else a) 0 k
theorem plN_s (n : Nat) (F : Nat → Nat → Int32) (l k : Nat) : plN n F l (k + 1) = if F 0 k = nI l then plN n F l k ||| 2 ^ s_place n F k else plN n F l k := rfl
theorem plN_lt {n : Nat} (hn : n ≤ 12) {F : Nat → Nat → Int32} {l : Nat} : ∀ k, k ≤ n → plN n F l k < 2 ^ 13
  | 0, _ => by show 0 < 2 ^ 13; decide
  | k + 1, h => by
    have ih := plN_lt hn (F := F) (l := l) k (by omega)
    rw [plN_s]
    split
    · have b1 := pl_bd hn (F := F) (show k < n by omega)
      exact Nat.or_lt_two_pow ih (Nat.pow_lt_pow_right (by decide) (by omega))
    · exact ih
def PLI (n : Nat) (F : Nat → Nat → Int32) (k : Nat) (P : Nat → Int32) : Prop := ∀ l, l < 3 → P l = nI (plN n F l k)
theorem or_nI {a b : Nat} (ha : a < 2 ^ 13) (hb : b < 2 ^ 13) : nI a ||| nI b = nI (a ||| b) := by
  apply Int32.toBitVec_inj.mp
  apply BitVec.eq_of_toNat_eq
  rw [Int32.toBitVec_or, BitVec.toNat_or]
  have h1 : (nI a).toBitVec.toNat = a := pk_tn (by omega)
  have h2 : (nI b).toBitVec.toNat = b := pk_tn (by omega)
  have h3 : (nI (a ||| b)).toBitVec.toNat = a ||| b := pk_tn (by have := Nat.or_lt_two_pow ha hb; omega)
  rw [h1, h2, h3]
theorem shl_1 : ∀ p, p ≤ 12 → (1 : Int32) <<< (nI p &&& 31) = nI (2 ^ p) := by decide +kernel
theorem shl_2 : ∀ c, c ≤ 12 → (2 : Int32) <<< (nI c &&& 31) - 2 = nI (2 ^ (c + 1) - 2) := by decide +kernel
theorem PLI.zero (n : Nat) (F : Nat → Nat → Int32) : PLI n F 0 (fun _ => 0) := fun l _ => rfl
theorem PLI.step {n : Nat} (hn : n ≤ 12) {F : Nat → Nat → Int32} {k g : Nat} {P : Nat → Int32} (h : PLI n F k P) (hk : k < n) (e : F 0 k = nI g) (hg : g < 3) : PLI n F (k + 1) (upd P g (P g ||| (1 : Int32) <<< (nI (s_place n F k) &&& 31))) := by
  intro l hl
  have b1 := pl_bd hn (F := F) hk
  rw [plN_s]
  by_cases q : l = g
  · subst q
    rw [pk_us, if_pos e, h l hl, shl_1 _ (by omega), or_nI (plN_lt hn k (by omega)) (Nat.pow_lt_pow_right (by decide) (by omega))]
  · rw [pk_un q, if_neg (fun z => q ((nI_eq (by omega) (by omega)).mp (z.symm.trans e))), h l hl]
theorem plN_bit {n : Nat} {F : Nat → Nat → Int32} {l j : Nat} : ∀ k, (plN n F l k).testBit j = true ↔ ∃ i, i < k ∧ F 0 i = nI l ∧ s_place n F i = j
  | 0 => by
    constructor
    · intro h; rw [show plN n F l 0 = 0 from rfl, Nat.zero_testBit] at h; cases h
    · rintro ⟨i, hi, -⟩; omega
  | k + 1 => by
    have ih := plN_bit (n := n) (F := F) (l := l) (j := j) k
    rw [plN_s]
    by_cases e : F 0 k = nI l
    · rw [if_pos e, Nat.testBit_or, Bool.or_eq_true, ih, Nat.testBit_two_pow]
      constructor
      · rintro (⟨i, h1, h2⟩ | h)
        · exact ⟨i, by omega, h2⟩
        · exact ⟨k, by omega, e, of_decide_eq_true h⟩
      · rintro ⟨i, h1, h2, h3⟩
        by_cases q : i = k
        · subst q; exact Or.inr (decide_eq_true h3)
        · exact Or.inl ⟨i, by omega, h2, h3⟩
    · rw [if_neg e, ih]
      constructor
      · rintro ⟨i, h1, h2⟩; exact ⟨i, by omega, h2⟩
      · rintro ⟨i, h1, h2, h3⟩
        by_cases q : i = k
        · subst q; exact absurd h2 e
        · exact ⟨i, by omega, h2, h3⟩
theorem plN_fin {n : Nat} (hn : n ≤ 12) {F : Nat → Nat → Int32} {l : Nat} : plN n F l n = 2 ^ (s_many n F (nI l) + 1) - 2 := by
  apply Nat.eq_of_testBit_eq
  intro j
  have e4 : s_many n F (nI l) = fb_ct (s_mem F (nI l)) n := many_ct _ _ _
  have hp : 0 < 2 ^ s_many n F (nI l) := Nat.two_pow_pos _
  have e5 : 2 ^ (s_many n F (nI l) + 1) - 2 = 2 * (2 ^ s_many n F (nI l) - 1) := by rw [Nat.pow_succ]; omega
  rw [e5]
  rw [Bool.eq_iff_iff, plN_bit]
  cases j with
  | zero =>
    rw [Nat.testBit_zero]
    constructor
    · rintro ⟨i, h1, h2, h3⟩
      have := pl_bd hn (F := F) h1; omega
    · intro h
      have h := of_decide_eq_true h
      omega
  | succ j =>
    rw [Nat.testBit_succ, Nat.mul_div_cancel_left _ (by decide), Nat.testBit_two_pow_sub_one, decide_eq_true_iff]
    constructor
    · rintro ⟨i, h1, h2, h3⟩
      have b1 := pl_bd hn (F := F) h1
      rw [h2] at b1
      omega
    · intro h
      obtain ⟨w, w1, w2, w3⟩ := rk_onto (n := n) (F := F) (g := nI l) (y := j) (by omega)
      have e1 : s_place n F w = 1 + fb_ct (s_rkP F (nI l) w) n := place_ct w2 n
      exact ⟨w, w1, w2, by omega⟩
theorem PLI.fin {n : Nat} (hn : n ≤ 12) {F : Nat → Nat → Int32} {ct : Nat → Int32} {P : Nat → Int32} (h : PLI n F n P) {l : Nat} (hl : l < 3) : P l = (2 : Int32) <<< (s_cnt n F ct (nI (4 + l)) &&& 31) - 2 := by
  have e : s_cnt n F ct (nI (4 + l)) = nI (s_many n F (nI l)) := by rcases (show l = 0 ∨ l = 1 ∨ l = 2 by omega) with rfl | rfl | rfl <;> rfl
  rw [e, shl_2 _ (by have := many_le F (nI l) n; unfold s_many; omega), h l hl, plN_fin hn]
theorem cnt4 {n : Nat} {F : Nat → Nat → Int32} {ct : Nat → Int32} {l : Nat} (hl : l < 3) : s_cnt n F ct (nI (4 + l)) = nI (s_many n F (nI l)) := by
  rcases (show l = 0 ∨ l = 1 ∨ l = 2 by omega) with rfl | rfl | rfl <;> rfl
theorem sum_N {n : Nat} {F : Nat → Nat → Int32} (hR : okR n F) : ∀ k, k ≤ n → s_sumU F k = nI (smN F 1 k) ∧ 100 * k ≤ smN F 1 k ∧ smN F 1 k ≤ 3000 * k
  | 0, _ => ⟨rfl, Nat.zero_le _, Nat.le_refl _⟩
  | k + 1, h => by
    obtain ⟨e, h1, h2⟩ := sum_N hR k (by omega)
    obtain ⟨r, r1, r2, er⟩ := hR k (by omega)
    refine ⟨?_, ?_, ?_⟩
    · show s_sumU F k + F 1 k = _
      rw [e, er, nI_add, smN_s, er, cl_nI (by omega)]
    · rw [smN_s, er, cl_nI (by omega)]; omega
    · rw [smN_s, er, cl_nI (by omega)]; omega
theorem next_c {n : Nat} (hn : n ≤ 12) (F : Nat → Nat → Int32) : s_next n F = -1 ∨ ∃ a b, a < b ∧ b < n ∧ F 0 a = F 0 b ∧ s_next n F = nI (12 * a + b) := by
  rcases NX_U hn F n with ⟨h1, -⟩ | ⟨a, b, h1, h2, h3, h4, h5, h6⟩
  · exact Or.inl h1
  · refine Or.inr ⟨a, b, h1, h2, h4, ?_⟩
    have : s_next n F = nI a * 12 + nI b := congrArg Prod.fst h5
    rw [this, show (12 : Int32) = nI 12 from rfl, pk_mul, nI_add, Nat.mul_comm]
/-! gains -/
theorem wt_c (F : Nat → Nat → Int32) (w : Nat) : s_wt F w = 40 ∨ s_wt F w = 20 ∨ s_wt F w = 10 := by
  unfold s_wt
  split
  · split
    · exact Or.inr (Or.inl rfl)
    · exact Or.inr (Or.inr rfl)
  · exact Or.inl rfl
theorem clamp_ge {r d : Nat} (h1 : 100 ≤ r) (h2 : r ≤ 3000) (hd : d ≤ 100) : ∃ t : Nat, r ≤ t ∧ t ≤ 3000 ∧ maxI 100 (minI 3000 (nI r + nI d)) = nI t := by
  rw [nI_add]
  unfold minI
  by_cases q : nI (r + d) < 3000
  · rw [if_pos q]
    have q2 : r + d < 3000 := (nI_ltI (b := 3000) (by omega) (by decide)).mp q
    exact ⟨max 100 (r + d), by omega, by omega, maxN (a := 100) (by decide) (by omega)⟩
  · rw [if_neg q]; exact ⟨3000, h2, Nat.le_refl _, rfl⟩
theorem clamp_le {r d : Nat} (h1 : 100 ≤ r) (h2 : r ≤ 3000) (hd : d ≤ 100) : ∃ t : Nat, 100 ≤ t ∧ t ≤ r ∧ maxI 100 (minI 3000 (nI r + -(nI d))) = nI t := by
  rw [add_ng, pk_sub (by omega)]
  unfold minI
  by_cases q : nI (r - d) < 3000
  · rw [if_pos q]
    exact ⟨max 100 (r - d), by omega, by omega, maxN (a := 100) (by decide) (by omega)⟩
  · rw [if_neg q]
    have q2 : ¬ r - d < 3000 := fun z => q (nI_lt (b := 3000) z (by decide))
    exact ⟨3000, by decide, by omega, rfl⟩
theorem win0 : (List.range 1001).all (fun x => decide ((40 : Int32) * (1000 - nI x) / 1000 = nI (40 * (1000 - x) / 1000)) && decide ((20 : Int32) * (1000 - nI x) / 1000 = nI (20 * (1000 - x) / 1000)) && decide ((10 : Int32) * (1000 - nI x) / 1000 = nI (10 * (1000 - x) / 1000))) = true := by decide +kernel
theorem los0 : (List.range 1001).all (fun x => decide ((40 : Int32) * (0 - nI x) / 1000 = -(nI (40 * x / 1000))) && decide ((20 : Int32) * (0 - nI x) / 1000 = -(nI (20 * x / 1000))) && decide ((10 : Int32) * (0 - nI x) / 1000 = -(nI (10 * x / 1000)))) = true := by decide +kernel
theorem then_win {n : Nat} {F : Nat → Nat → Int32} (hR : okR n F) {a b : Nat} (ha : a < n) (hb : b < n) : ∃ r t : Nat, F 1 a = nI r ∧ s_then F a b (nI 1000) = nI t ∧ r ≤ t ∧ t ≤ 3000 := by
  obtain ⟨r, r1, r2, er⟩ := hR a ha
  obtain ⟨x, hx, ex⟩ := exp_N hR ha hb
  have w := List.all_eq_true.mp win0 x (List.mem_range.mpr (by omega))
  simp only [Bool.and_eq_true, decide_eq_true_eq] at w
  unfold s_then
  rw [er, ex, show nI 1000 = (1000 : Int32) from rfl]
  rcases wt_c F a with e | e | e <;> rw [e]
  · rw [w.1.1]
    obtain ⟨t, t1, t2, t3⟩ := clamp_ge (d := 40 * (1000 - x) / 1000) r1 r2 (by omega)
    exact ⟨r, t, rfl, t3, t1, t2⟩
  · rw [w.1.2]
    obtain ⟨t, t1, t2, t3⟩ := clamp_ge (d := 20 * (1000 - x) / 1000) r1 r2 (by omega)
    exact ⟨r, t, rfl, t3, t1, t2⟩
  · rw [w.2]
    obtain ⟨t, t1, t2, t3⟩ := clamp_ge (d := 10 * (1000 - x) / 1000) r1 r2 (by omega)
    exact ⟨r, t, rfl, t3, t1, t2⟩
theorem then_los {n : Nat} {F : Nat → Nat → Int32} (hR : okR n F) {a b : Nat} (ha : a < n) (hb : b < n) : ∃ r t : Nat, F 1 a = nI r ∧ s_then F a b (nI 0) = nI t ∧ t ≤ r ∧ r ≤ 3000 := by
  obtain ⟨r, r1, r2, er⟩ := hR a ha
  obtain ⟨x, hx, ex⟩ := exp_N hR ha hb
  have w := List.all_eq_true.mp los0 x (List.mem_range.mpr (by omega))
  simp only [Bool.and_eq_true, decide_eq_true_eq] at w
  unfold s_then
  rw [er, ex, show nI 0 = (0 : Int32) from rfl]
  rcases wt_c F a with e | e | e <;> rw [e]
  · rw [w.1.1]
    obtain ⟨t, t1, t2, t3⟩ := clamp_le (d := 40 * x / 1000) r1 r2 (by omega)
    exact ⟨r, t, rfl, t3, t2, r2⟩
  · rw [w.1.2]
    obtain ⟨t, t1, t2, t3⟩ := clamp_le (d := 20 * x / 1000) r1 r2 (by omega)
    exact ⟨r, t, rfl, t3, t2, r2⟩
  · rw [w.2]
    obtain ⟨t, t1, t2, t3⟩ := clamp_le (d := 10 * x / 1000) r1 r2 (by omega)
    exact ⟨r, t, rfl, t3, t2, r2⟩
theorem gain_win {n : Nat} {F : Nat → Nat → Int32} (hR : okR n F) {a b : Nat} (ha : a < n) (hb : b < n) : ¬ s_gain F a b (nI 2) < 0 := by
  obtain ⟨r, t, e1, e2, h1, h2⟩ := then_win hR ha hb
  unfold s_gain
  rw [q500, show 500 * 2 = 1000 from rfl, e2, e1, pk_sub h1]
  exact nI_pos (by omega)
theorem gain_los {n : Nat} {F : Nat → Nat → Int32} (hR : okR n F) {a b : Nat} (ha : a < n) (hb : b < n) : ¬ 0 < s_gain F a b (nI 0) := by
  obtain ⟨r, t, e1, e2, h1, h2⟩ := then_los hR ha hb
  unfold s_gain
  rw [q500, show 500 * 0 = 0 from rfl, e2, e1]
  intro q
  have q2 := Int32.lt_iff_toInt_lt.mp q
  rw [pk_sub_toInt (by omega) (by omega)] at q2
  have z : (0 : Int32).toInt = 0 := rfl
  rw [z] at q2
  omega
theorem hold_a {F : Nat → Nat → Int32} {a b q : Nat} (h : a ≠ b) : s_hold F a b q 1 a = F 1 a + s_gain F a b (nI q) := by
  rw [hold_mb F q h]
  unfold s_mb
  rw [note_1, note_1, set_1, if_neg h, set_1, if_pos rfl]
  unfold s_gain
  rw [i32_asc, q500]
theorem hold_b {F : Nat → Nat → Int32} {a b q : Nat} (h : a ≠ b) : s_hold F a b q 1 b = F 1 b + s_gain F b a (nI (2 - q)) := by
  rw [hold_mb F q h]
  unfold s_mb
  rw [note_1, note_1, set_1, if_pos rfl]
  unfold s_gain
  rw [i32_asc, q500]
theorem hold_o {F : Nat → Nat → Int32} {a b q i : Nat} (h : a ≠ b) (ha : i ≠ a) (hb : i ≠ b) : s_hold F a b q 1 i = F 1 i := by
  rw [hold_mb F q h]
  unfold s_mb
  rw [note_1, note_1, set_1, if_neg hb, set_1, if_neg ha]
theorem hi_le {F : Nat → Nat → Int32} {z : Int32} (h0 : 0 ≤ z) : ∀ m, (∀ i, i < m → F 1 i ≤ z) → s_hiU F m ≤ z
  | 0, _ => h0
  | m + 1, h => by
    show (if s_hiU F m < F 1 m then F 1 m else s_hiU F m) ≤ z
    split
    · exact h m (by omega)
    · exact hi_le h0 m (fun i hi => h i (by omega))
theorem har_hi {n : Nat} (hn : n ≤ 12) {X : Nat → Nat → Int32} (hR : okR n X) {a b : Nat} (hab : a ≠ b) (ha : a < n) (hb : b < n) : s_hi n X ≤ s_hi n (s_har X a b) := by
  have up : ∀ i, i < n → s_har X a b 1 i ≤ s_hi n (s_har X a b) := fun i hi => s_hiU_le n i hi
  have hRh : okR n (s_har X a b) := okR_har hab hR
  refine hi_le ?_ n (fun i hi => ?_)
  · obtain ⟨r, r1, r2, er⟩ := hRh a ha
    have := up a ha
    rw [er] at this
    exact Int32.le_trans (nI_pos' (by omega)) this
  · by_cases c : X 1 a < X 1 b
    · have eb : s_har X a b = s_hold X a b 0 := by unfold s_har; rw [if_pos c]
      have kb : X 1 b ≤ s_hi n (s_har X a b) := by
        refine Int32.le_trans ?_ (up b hb)
        rw [eb, hold_b hab]
        obtain ⟨r, t, e1, e2, h1, h2⟩ := then_win hR hb ha
        unfold s_gain
        rw [i32_asc, q500, show 500 * (2 - 0) = 1000 from rfl, e2, e1]
        exact nI_le h1 (by omega)
      by_cases q1 : i = a
      · rw [q1]; exact Int32.le_trans (Int32.le_of_lt c) kb
      · by_cases q2 : i = b
        · rw [q2]; exact kb
        · have := up i hi; rw [eb, hold_o hab q1 q2] at this; rw [eb]; exact this
    · have eb : s_har X a b = s_hold X a b 2 := by unfold s_har; rw [if_neg c]
      have ka : X 1 a ≤ s_hi n (s_har X a b) := by
        refine Int32.le_trans ?_ (up a ha)
        rw [eb, hold_a hab]
        obtain ⟨r, t, e1, e2, h1, h2⟩ := then_win hR ha hb
        unfold s_gain
        rw [i32_asc, q500, show 500 * 2 = 1000 from rfl, e2, e1]
        exact nI_le h1 (by omega)
      by_cases q1 : i = a
      · rw [q1]; exact ka
      · by_cases q2 : i = b
        · rw [q2]; exact Int32.le_trans (Int32.not_lt.mp c) ka
        · have := up i hi; rw [eb, hold_o hab q1 q2] at this; rw [eb]; exact this
theorem for_hi {n : Nat} (hn : n ≤ 12) {F G : Nat → Nat → Int32} (hR : okR n F) : s_hi n F ≤ s_hi n (s_forU n (s_copyU F G n) 1) := by
  have hag := ag_copy n F G
  have hRX : okR n (s_copyU F G n) := okR_ag hag hR
  rw [← ag_hi hag]
  generalize s_copyU F G n = X at hRX
  show _ ≤ s_hi n (if s_next n X = -1 then X else s_har X (nxA (s_next n X)) (nxB (s_next n X)))
  split
  · exact Int32.le_refl _
  · rename_i h
    obtain ⟨a, b, hab, hb, -, e⟩ := (next_c hn X).resolve_left h
    rw [e, nxA_e hab hb hn, nxB_e hab hb hn]
    exact har_hi hn hRX (by omega) (by omega) hb
/-! the end of a season -/
theorem drift_1 {n : Nat} {F : Nat → Nat → Int32} : ∀ m k, k < m → s_driftU F m 1 k = if (3 : Int32) ≤ F 4 k then F 1 k else F 1 k - (F 1 k - 1000) / 8
  | 0, _, h => absurd h (by omega)
  | m + 1, k, h => by
    have e4 : ∀ m i, s_driftU F m 4 i = F 4 i := by
      intro m
      induction m with
      | zero => intro i; rfl
      | succ m ih =>
        intro i
        rw [drift_st]
        split
        · exact ih i
        · rw [set_4]; exact ih i
    rw [drift_st, e4]
    by_cases q : k = m
    · subst q
      split
      · exact driftU_1 F k k (Nat.le_refl k)
      · rw [set_1, if_pos rfl, driftU_1 F k k (Nat.le_refl k)]
    · split
      · exact drift_1 (n := n) m k (by omega)
      · rw [set_1, if_neg q]; exact drift_1 (n := n) m k (by omega)
theorem fin_1 {n : Nat} {F : Nat → Nat → Int32} {k : Nat} (hk : k < n) : s_clear n (s_endU n (s_drift n F) 2).1 1 k = if (3 : Int32) ≤ F 4 k then F 1 k else F 1 k - (F 1 k - 1000) / 8 := by
  show s_clearU _ n 1 k = _
  rw [clear_app, if_neg (by omega), endU_app n _ 2 1 k (by decide)]
  exact drift_1 (n := n) n k hk
theorem fin_24 {n : Nat} {F : Nat → Nat → Int32} {k j : Nat} (hk : k < n) (hj : j = 2 ∨ j = 4) : s_clear n (s_endU n (s_drift n F) 2).1 j k = 0 := by
  show s_clearU _ n j k = _
  rw [clear_app, if_pos ⟨hj, hk⟩]
theorem nearer0 : (List.range 3001).all (fun r => decide (absI (nI r - (nI r - 1000) / 8 - 1000) = absI (nI r - 1000) - 1 * (absI (nI r - 1000) / 8))) = true := by decide +kernel
theorem nearer {n : Nat} {F : Nat → Nat → Int32} (hR : okR n F) {k : Nat} (hk : k < n) : absI (s_clear n (s_endU n (s_drift n F) 2).1 1 k - 1000) = absI (F 1 k - 1000) - (if (3 : Int32) ≤ F 4 k then 0 else 1) * (absI (F 1 k - 1000) / 8) := by
  obtain ⟨r, r1, r2, er⟩ := hR k hk
  rw [fin_1 hk]
  split
  · rw [Int32.zero_mul, Int32.sub_zero]
  · rw [er]
    exact of_decide_eq_true (List.all_eq_true.mp nearer0 r (List.mem_range.mpr (by omega)))
theorem up_N (n : Nat) (F : Nat → Nat → Int32) : ∀ m, ∃ j : Nat, j ≤ m ∧ (s_endU n F m).2 = nI j
  | 0 => ⟨0, Nat.le_refl 0, rfl⟩
  | m + 1 => by
    obtain ⟨j, h1, h2⟩ := up_N n F m
    have e : (s_endU n F (m + 1)).2 = if s_exchB n (s_endU n F m).1 (nI m) = true then (s_endU n F m).2 + 1 else (s_endU n F m).2 := rfl
    rw [e]
    split
    · exact ⟨j + 1, by omega, by rw [h2]; exact nI_1 j⟩
    · exact ⟨j, by omega, h2⟩
theorem many_eq {F G : Nat → Nat → Int32} {g : Int32} : ∀ n, (∀ i, i < n → F 0 i = G 0 i) → s_manyU F g n = s_manyU G g n
  | 0, _ => rfl
  | n + 1, h => by
    show (if F 0 n = g then s_manyU F g n + 1 else s_manyU F g n) = (if G 0 n = g then s_manyU G g n + 1 else s_manyU G g n)
    rw [h n (by omega), many_eq n (fun i hi => h i (by omega))]
theorem many_ex {n : Nat} {F : Nat → Nat → Int32} {p g : Int32} : s_many n (s_exch n F p) g = s_many n F g := by
  unfold s_exch
  cases ea : s_at n F p (nI (s_many n F p)) with
  | none => rfl
  | some a =>
  cases eb : s_at n F (p + 1) 1 with
  | none => rfl
  | some b =>
  · show s_many n (if F 2 a < F 2 b then pu (pu F 0 a (p + 1)) 0 b p else F) g = s_many n F g
    split
    · obtain ⟨a1, a2, -⟩ := s_at_lt n a ea
      obtain ⟨b1, b2, -⟩ := s_at_lt n b eb
      have hne : a ≠ b := fun z => p_ne p (a2.symm.trans (by rw [z]; exact b2))
      unfold s_many
      rw [many_ct, many_ct]
      obtain ⟨Q, hQ⟩ : ∃ Q : Nat → Bool, Q = fun k => if k = a then decide (p + 1 = g) else s_mem F g k := ⟨_, rfl⟩
      have c1 : fb_ct (s_mem (pu (pu F 0 a (p + 1)) 0 b p) g) n = fb_ct (fun k => if k = b then decide (p = g) else Q k) n := by
        apply fb_ct_cong
        intro k hk
        rw [hQ]
        show decide (pu (pu F 0 a (p + 1)) 0 b p 0 k = g) = if k = b then decide (p = g) else if k = a then decide (p + 1 = g) else decide (F 0 k = g)
        by_cases q : k = b
        · rw [if_pos q, pu_app, if_pos ⟨rfl, q⟩]
        · rw [if_neg q, pu_app, if_neg (fun z => q z.2), pu_app]
          by_cases q2 : k = a
          · rw [if_pos ⟨rfl, q2⟩, if_pos q2]
          · rw [if_neg (fun z => q2 z.2), if_neg q2]
      have u1 := fb_ct_upd Q (decide (p = g)) b1
      have u2 := fb_ct_upd (s_mem F g) (decide (p + 1 = g)) a1
      have e1 : Q b = decide (p + 1 = g) := by rw [hQ]; show (if b = a then _ else s_mem F g b) = _; rw [if_neg (fun z => hne z.symm)]; unfold s_mem; rw [b2]
      have e2 : s_mem F g a = decide (p = g) := by unfold s_mem; rw [a2]
      rw [e2, ← hQ] at u2
      rw [e1] at u1
      rw [c1]
      omega
    · rfl
theorem many_fin {n : Nat} {F : Nat → Nat → Int32} {g : Int32} : s_many n (s_clear n (s_endU n (s_drift n F) 2).1) g = s_many n F g := by
  have h1 : s_many n (s_clear n (s_endU n (s_drift n F) 2).1) g = s_many n (s_endU n (s_drift n F) 2).1 g := many_eq n (fun i _ => by show s_clearU _ n 0 i = _; rw [clear_app, if_neg (by omega)])
  have h2 : ∀ m, s_many n (s_endU n (s_drift n F) m).1 g = s_many n (s_drift n F) g := by
    intro m
    induction m with
    | zero => rfl
    | succ m ih => rw [s_endU_s]; show s_many n (s_exch n _ _) g = _; rw [many_ex]; exact ih
  have h3 : ∀ m i, s_driftU F m 0 i = F 0 i := by
    intro m
    induction m with
    | zero => intro i; rfl
    | succ m ih =>
      intro i
      rw [drift_st]
      split
      · exact ih i
      · rw [set_o (by decide) (by decide)]; exact ih i
  rw [h1, h2 2]
  exact many_eq n (fun i _ => h3 n i)
theorem bne {n a t : Nat} (hn : 2 ≤ n) (ha : a < n) (ht : t < n - 1) : (a + 1 + t) % n < n ∧ a ≠ (a + 1 + t) % n := by
  refine ⟨Nat.mod_lt _ (by omega), ?_⟩
  by_cases q : a + 1 + t < n
  · rw [Nat.mod_eq_of_lt q]; omega
  · rw [show a + 1 + t = (a + 1 + t - n) + n by omega, Nat.add_mod_right, Nat.mod_eq_of_lt (by omega)]; omega
