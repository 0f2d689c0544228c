theorem fp_cases (s : Bool) (A B : Nat) (e : Int) : (∃ c q, FP.Core.roundRatio FP.Core.b64 s A B e = .fin s c q) ∨ FP.Core.roundRatio FP.Core.b64 s A B e = .inf s := by
  unfold FP.Core.roundRatio
  split
  · exact Or.inl ⟨_, _, rfl⟩
  · unfold FP.Core.roundAt FP.Core.settle FP.Core.bound
    split
    · split
      · exact Or.inl ⟨_, _, rfl⟩
      · exact Or.inr rfl
    · split
      · exact Or.inl ⟨_, _, rfl⟩
      · exact Or.inr rfl
theorem fp_rr (s : Bool) (A B : Nat) (e : Int) (hB : 0 < B) (he : -1074 ≤ e) (hsm : FP.Core.inUnits A e (-1200) < 2 ^ 1300) : ∃ c q, FP.Core.roundRatio FP.Core.b64 s A B e = .fin s c q ∧ -1074 ≤ q ∧ ∀ c' q', c' < 2 ^ 53 → -1074 ≤ q' → FP.Core.distance A B e c q (-1200) ≤ FP.Core.distance A B e c' q' (-1200) := by
  rcases fp_cases s A B e with ⟨c, q, h⟩ | h
  · have hf := FP.Core.roundRatio_fits FP.Core.good_b64 s A hB e
    rw [h] at hf
    refine ⟨c, q, h, hf.2.1, fun c' q' h1 h2 => ?_⟩
    exact FP.Core.roundRatio_nearest FP.Core.good_b64 hB h h1 h2 (by decide) (by omega)
  · exfalso
    have h2 := (FP.Core.roundRatio_inf (e0 := -1200) FP.Core.good_b64 hB (by decide) (by omega)).mp h
    have h3 : 1 * 2 ^ 1300 * 1 ≤ (2 ^ (FP.Core.b64.p + 1) - 1) * 2 ^ (FP.Core.b64.qmax - 1 - (-1200)).toNat * B := Nat.mul_le_mul (Nat.mul_le_mul (by decide) (Nat.pow_le_pow_right (by decide) (by decide))) hB
    omega
/-- a whole number that is a double -/
theorem fp_int {x : UInt64} {i : Nat} (h : FP.Core.DInt (i : Int) x) (h0 : 0 < i) : ∃ c q, FP.Core.val64 x = .fin false c q ∧ -1074 ≤ q ∧ c * 2 ^ q.toNat = i * 2 ^ (-q).toNat := by
  unfold FP.Core.DInt at h
  have hf := FP.Core.val64_fits x
  cases hv : FP.Core.val64 x with
  | nan => rw [hv] at h; exact h.elim
  | inf => rw [hv] at h; exact h.elim
  | fin s c q =>
    rw [hv] at h hf
    have hs : s = false := by
      have := FP.Core.whole_sign h (by omega)
      rw [this]; simp
    subst hs
    refine ⟨c, q, rfl, hf.2.1, ?_⟩
    have h2 : FP.Core.signed false (c * 2 ^ q.toNat) = (i : Int) * ((2 ^ (-q).toNat : Nat) : Int) := h
    unfold FP.Core.signed at h2
    rw [if_neg (by decide), ← Int.natCast_mul] at h2
    exact Int.ofNat.inj h2
theorem fp_units {c i : Nat} {q : Int} (hq : -1200 ≤ q) (h : c * 2 ^ q.toNat = i * 2 ^ (-q).toNat) : FP.Core.inUnits c q (-1200) = i * 2 ^ 1200 := by
  unfold FP.Core.inUnits
  refine Nat.eq_of_mul_eq_mul_right (Nat.two_pow_pos (-q).toNat) ?_
  have e1 : (q - -1200).toNat + (-q).toNat = q.toNat + 1200 := by omega
  calc c * 2 ^ (q - -1200).toNat * 2 ^ (-q).toNat = c * 2 ^ ((q - -1200).toNat + (-q).toNat) := by rw [Nat.mul_assoc, ← Nat.pow_add]
    _ = c * 2 ^ q.toNat * 2 ^ 1200 := by rw [e1, Nat.pow_add, Nat.mul_assoc]
    _ = i * 2 ^ (-q).toNat * 2 ^ 1200 := by rw [h]
    _ = i * 2 ^ 1200 * 2 ^ (-q).toNat := by rw [Nat.mul_assoc, Nat.mul_comm (2 ^ (-q).toNat), ← Nat.mul_assoc]
theorem fp_div {s n cs cn : Nat} {qs qn : Int} (hn : 0 < n) (hcs : cs * 2 ^ qs.toNat = s * 2 ^ (-qs).toNat) (hcn : cn * 2 ^ qn.toNat = n * 2 ^ (-qn).toNat) : FP.Core.quotient FP.Core.b64 (.fin false cs qs) (.fin false cn qn) = FP.Core.roundRatio FP.Core.b64 false s n 0 := by
  have hcn0 : 0 < cn := by
    rcases Nat.eq_zero_or_pos cn with h | h
    · subst h
      have : 0 < n * 2 ^ (-qn).toNat := Nat.mul_pos hn (Nat.two_pow_pos _)
      omega
    · exact h
  show (if cn = 0 then _ else FP.Core.roundRatio FP.Core.b64 (false != false) cs cn (qs - qn)) = _
  rw [if_neg (by omega)]
  refine FP.Core.roundRatio_congr hcn0 hn ?_
  refine Nat.eq_of_mul_eq_mul_right (Nat.two_pow_pos (qn.toNat + (-qs).toNat)) ?_
  have e1 : (qs - qn - 0).toNat + (qn.toNat + (-qs).toNat) = qs.toNat + (-qn).toNat + (0 - (qs - qn)).toNat := by omega
  calc cs * n * 2 ^ (qs - qn - 0).toNat * 2 ^ (qn.toNat + (-qs).toNat) = cs * n * 2 ^ ((qs - qn - 0).toNat + (qn.toNat + (-qs).toNat)) := by rw [Nat.mul_assoc, ← Nat.pow_add]
    _ = (cs * 2 ^ qs.toNat) * (n * 2 ^ (-qn).toNat) * 2 ^ (0 - (qs - qn)).toNat := by rw [e1, Nat.pow_add, Nat.pow_add]; ac_rfl
    _ = (s * 2 ^ (-qs).toNat) * (cn * 2 ^ qn.toNat) * 2 ^ (0 - (qs - qn)).toNat := by rw [hcs, hcn]
    _ = s * cn * 2 ^ (0 - (qs - qn)).toNat * 2 ^ (qn.toNat + (-qs).toNat) := by rw [Nat.pow_add]; ac_rfl
theorem fp_mul {c1 n cn : Nat} {q1 qn : Int} (hcn : cn * 2 ^ qn.toNat = n * 2 ^ (-qn).toNat) : FP.Core.round FP.Core.b64 (FP.Core.exactProduct (.fin false c1 q1) (.fin false cn qn)) = FP.Core.roundRatio FP.Core.b64 false (c1 * n) 1 q1 := by
  show FP.Core.roundRatio FP.Core.b64 (false != false) (c1 * cn) 1 (q1 + qn) = _
  refine FP.Core.roundRatio_congr (by decide) (by decide) ?_
  rw [show q1 + qn - q1 = qn by omega, show q1 - (q1 + qn) = -qn by omega, Nat.mul_one, Nat.mul_one, Nat.mul_assoc, hcn, Nat.mul_assoc]
theorem fp_main {s n : Nat} (hs0 : 0 < s) (hs : s ≤ 36000) (hn0 : 0 < n) (hn : n ≤ 12) {xs xn : UInt64} (hxs : FP.Core.DInt (s : Int) xs) (hxn : FP.Core.DInt (n : Int) xn) :
    ∃ c1 q1 c2 q2 t c3 q3, FP.Core.val64 (FP.Core.ddiv xs xn) = .fin false c1 q1 ∧ FP.Core.val64 (FP.Core.dmul (FP.Core.ddiv xs xn) xn) = .fin false c2 q2 ∧ FP.Core.val64 (FP.Core.dsub (FP.Core.dmul (FP.Core.ddiv xs xn) xn) xs) = .fin t c3 q3 ∧ -1074 ≤ q3 ∧ FP.Core.inUnits c3 q3 (-1200) ≤ 26 * 2 ^ 1170 := by
  obtain ⟨cs, qs, vs, gs, es⟩ := fp_int hxs hs0
  obtain ⟨cn, qn, vn, gn, en⟩ := fp_int hxn hn0
  obtain ⟨P, hP⟩ : ∃ P : Nat, 2 ^ 1170 = P := ⟨_, rfl⟩
  have hP0 : 0 < P := by rw [← hP]; exact Nat.two_pow_pos _
  have e1200 : 2 ^ 1200 = 2 ^ 30 * P := by rw [← hP, ← Nat.pow_add]
  have e1300 : 2 ^ 1300 = 2 ^ 130 * P := by rw [← hP, ← Nat.pow_add]
  have i30 : ∀ c : Nat, FP.Core.inUnits c (-30) (-1200) = c * P := fun c => by rw [← hP]; rfl
  -- the FP.Core.quotient
  have u1 : FP.Core.inUnits s 0 (-1200) = s * (2 ^ 30 * P) := by rw [← e1200]; rfl
  obtain ⟨c1, q1, r1, g1, d1⟩ := fp_rr false s n 0 hn0 (by decide) (by rw [u1, e1300]; exact (by
    have : s * (2 ^ 30 * P) ≤ 36000 * (2 ^ 30 * P) := Nat.mul_le_mul_right _ hs
    omega))
  have v1 : FP.Core.val64 (FP.Core.ddiv xs xn) = .fin false c1 q1 := by rw [FP.Core.val64_ddiv, vs, vn, fp_div hn0 es en, r1]
  have k1 := d1 (s * 2 ^ 30 / n) (-30) (Nat.lt_of_le_of_lt (Nat.div_le_self _ _) (by omega)) (by decide)
  unfold FP.Core.distance at k1
  rw [u1, i30] at k1
  have m1 := Nat.div_add_mod (s * 2 ^ 30) n
  have m2 := Nat.mod_lt (s * 2 ^ 30) hn0
  obtain ⟨V1, hV1⟩ : ∃ V, FP.Core.inUnits c1 q1 (-1200) = V := ⟨_, rfl⟩
  rw [hV1] at k1
  -- V1 * n against s * 2^30 * P
  have b1 : V1 * n ≤ s * 2 ^ 30 * P + 12 * P ∧ s * 2 ^ 30 * P ≤ V1 * n + 12 * P := by
    have z1 : s * (2 ^ 30 * P) = (n * (s * 2 ^ 30 / n)) * P + (s * 2 ^ 30 % n) * P := by rw [← Nat.add_mul, m1, Nat.mul_assoc]
    have z2 : (s * 2 ^ 30 % n) * P ≤ 12 * P := Nat.mul_le_mul_right P (by omega)
    have z3 : (n * (s * 2 ^ 30 / n)) * P = (s * 2 ^ 30 / n) * P * n := by ac_rfl
    have z4 : s * 2 ^ 30 * P = s * (2 ^ 30 * P) := Nat.mul_assoc ..
    rw [z4]
    generalize (s * 2 ^ 30 / n) * P * n = a at z3 k1
    generalize hb : (n * (s * 2 ^ 30 / n)) * P = b at z1 z3
    generalize (s * 2 ^ 30 % n) * P = r at z1 z2
    generalize hw : s * (2 ^ 30 * P) = w at z1 k1 ⊢
    rw [← Int.natCast_mul, ← Int.natCast_mul] at k1
    have z5 : s * 2 ^ 30 / n * P * n = b := by rw [← hb]; ac_rfl
    rw [z5] at k1
    generalize V1 * n = x at k1 ⊢
    omega
  -- the product
  have u2 : FP.Core.inUnits (c1 * n) q1 (-1200) = V1 * n := by rw [← hV1]; unfold FP.Core.inUnits; ac_rfl
  have b2 : V1 * n ≤ 2 ^ 50 * P := by
    have : s * 2 ^ 30 * P ≤ 36000 * 2 ^ 30 * P := Nat.mul_le_mul_right _ (Nat.mul_le_mul_right _ hs)
    omega
  obtain ⟨c2, q2, r2, g2, d2⟩ := fp_rr false (c1 * n) 1 q1 (by decide) g1 (by rw [u2, e1300]; omega)
  have v2 : FP.Core.val64 (FP.Core.dmul (FP.Core.ddiv xs xn) xn) = .fin false c2 q2 := by rw [FP.Core.val64_dmul, v1, vn, fp_mul en, r2]
  have k2 := d2 (V1 * n / P) (-30) (by
    have : V1 * n / P ≤ 2 ^ 50 := Nat.div_le_of_le_mul (by rw [Nat.mul_comm P]; exact b2)
    omega) (by decide)
  unfold FP.Core.distance at k2
  rw [u2, i30] at k2
  obtain ⟨V2, hV2⟩ : ∃ V, FP.Core.inUnits c2 q2 (-1200) = V := ⟨_, rfl⟩
  rw [hV2] at k2
  have m3 := Nat.div_add_mod (V1 * n) P
  have m4 := Nat.mod_lt (V1 * n) hP0
  have b3 : V2 ≤ s * 2 ^ 30 * P + 13 * P ∧ s * 2 ^ 30 * P ≤ V2 + 13 * P := by
    have z5 : V1 * n / P * P = P * (V1 * n / P) := Nat.mul_comm ..
    have k2 := k2
    rw [show ((1 : Nat) : Int) = 1 from rfl, Int.mul_one, Int.mul_one, z5] at k2
    generalize hx : V1 * n = x at *
    generalize P * (x / P) = y at *
    generalize x % P = r at *
    omega
  -- the difference
  have us : FP.Core.inUnits cs qs (-1200) = s * 2 ^ 30 * P := by rw [fp_units (by omega) es, e1200, Nat.mul_assoc]
  obtain ⟨mq, hmq⟩ : ∃ mq, min q2 qs = mq := ⟨_, rfl⟩
  have gm : -1074 ≤ mq := by omega
  obtain ⟨D, hD⟩ : ∃ D, FP.Core.sumUnits false c2 q2 (!false) cs qs mq = D := ⟨_, rfl⟩
  have hV2m : FP.Core.inUnits c2 q2 (-1200) = FP.Core.inUnits c2 q2 mq * 2 ^ (mq - -1200).toNat := FP.Core.inUnits_move c2 (by omega) (by omega)
  have hVsm : FP.Core.inUnits cs qs (-1200) = FP.Core.inUnits cs qs mq * 2 ^ (mq - -1200).toNat := FP.Core.inUnits_move cs (by omega) (by omega)
  have hDe : D = (FP.Core.inUnits c2 q2 mq : Int) - FP.Core.inUnits cs qs mq := by rw [← hD]; simp [FP.Core.sumUnits, FP.Core.signed]; omega
  have u3 : FP.Core.inUnits D.natAbs mq (-1200) ≤ 13 * P := by
    have h1 : FP.Core.inUnits D.natAbs mq (-1200) = D.natAbs * 2 ^ (mq - -1200).toNat := rfl
    rw [h1]
    rw [hV2] at hV2m
    rw [us] at hVsm
    rw [hV2m] at b3
    rw [hVsm] at b3
    generalize FP.Core.inUnits c2 q2 mq = a at *
    generalize FP.Core.inUnits cs qs mq = b at *
    generalize 2 ^ (mq - -1200).toNat = T at *
    rcases Nat.le_total a b with q | q
    · have e : D.natAbs = b - a := by omega
      rw [e, Nat.sub_mul]
      omega
    · have e : D.natAbs = a - b := by omega
      rw [e, Nat.sub_mul]
      omega
  obtain ⟨c3, q3, r3, g3, d3⟩ := fp_rr (FP.Core.sumSign false (!false) D) D.natAbs 1 mq (by decide) gm (by rw [e1300]; omega)
  have v3 : FP.Core.val64 (FP.Core.dsub (FP.Core.dmul (FP.Core.ddiv xs xn) xn) xs) = .fin (FP.Core.sumSign false (!false) D) c3 q3 := by
    rw [FP.Core.val64_dsub, v2, vs, ← r3]
    show FP.Core.round FP.Core.b64 (.fin (FP.Core.sumSign false (!false) (FP.Core.sumUnits false c2 q2 (!false) cs qs (min q2 qs))) (FP.Core.sumUnits false c2 q2 (!false) cs qs (min q2 qs)).natAbs (min q2 qs)) = _
    rw [hmq, hD]
    rfl
  have k3 := d3 0 (-30) (by decide) (by decide)
  unfold FP.Core.distance at k3
  rw [i30] at k3
  refine ⟨c1, q1, c2, q2, _, c3, q3, v1, v2, v3, g3, ?_⟩
  rw [hP]
  generalize FP.Core.inUnits c3 q3 (-1200) = x at *
  generalize FP.Core.inUnits D.natAbs mq (-1200) = y at *
  omega
theorem fp_abs {x : UInt64} {t : Bool} {c : Nat} {q : Int} (h : FP.Core.val64 x = .fin t c q) : FP.Core.val64 (x &&& 0x7fffffffffffffff) = .fin false c q := by
  have e : (x &&& 0x7fffffffffffffff).toNat = x.toNat % 2 ^ 63 := by
    rw [UInt64.toNat_and]
    exact Nat.and_two_pow_sub_one_eq_mod x.toNat 63
  unfold FP.Core.val64 at h ⊢
  rw [e]
  have t1 : FP.Core.b64.tails = 2 ^ 52 := by decide
  have t2 : FP.Core.b64.exps = 2 ^ 11 := by decide
  have f1 : FP.Core.fieldT FP.Core.b64 (x.toNat % 2 ^ 63) = FP.Core.fieldT FP.Core.b64 x.toNat := by unfold FP.Core.fieldT; rw [t1]; omega
  have f2 : FP.Core.fieldE FP.Core.b64 (x.toNat % 2 ^ 63) = FP.Core.fieldE FP.Core.b64 x.toNat := by unfold FP.Core.fieldE; rw [t1, t2]; omega
  have f3 : FP.Core.fieldS FP.Core.b64 (x.toNat % 2 ^ 63) = false := by
    unfold FP.Core.fieldS; rw [t1, t2]
    have : x.toNat % 2 ^ 63 / 2 ^ 52 / 2 ^ 11 % 2 = 0 := by omega
    rw [this]; rfl
  unfold FP.Core.decode at h ⊢
  rw [f1, f2, f3]
  split at h
  · split at h <;> cases h
  · rename_i h1
    rw [if_neg h1]
    split at h
    · rename_i h2
      rw [if_pos h2]; cases h; rfl
    · rename_i h2
      rw [if_neg h2]; cases h; rfl
theorem fp_c : FP.Core.val64 0x3F50624DD2F1A9FC = .fin false 4611686018427388 (-62) := by decide +kernel
theorem fp_cmp {x : UInt64} {t : Bool} {c : Nat} {q : Int} (h : FP.Core.val64 x = .fin t c q) (hq : -1074 ≤ q) (hc : FP.Core.inUnits c q (-1200) ≤ 26 * 2 ^ 1170) : FP.Core.dcmp (x &&& 0x7fffffffffffffff) 0x3F50624DD2F1A9FC = some .lt := by
  show FP.Core.order (FP.Core.val64 (x &&& 0x7fffffffffffffff)) (FP.Core.val64 0x3F50624DD2F1A9FC) = _
  rw [fp_abs h, fp_c]
  show some (compare (FP.Core.signed false (FP.Core.inUnits c q (min q (-62)))) (FP.Core.signed false (FP.Core.inUnits 4611686018427388 (-62) (min q (-62))))) = _
  have e1 : FP.Core.inUnits c q (-1200) = FP.Core.inUnits c q (min q (-62)) * 2 ^ (min q (-62) - -1200).toNat := FP.Core.inUnits_move c (by omega) (by omega)
  have e2 : FP.Core.inUnits 4611686018427388 (-62) (-1200) = FP.Core.inUnits 4611686018427388 (-62) (min q (-62)) * 2 ^ (min q (-62) - -1200).toNat := FP.Core.inUnits_move _ (by omega) (by omega)
  have e3 : FP.Core.inUnits 4611686018427388 (-62) (-1200) = 4611686018427388 * 2 ^ 1138 := by
    unfold FP.Core.inUnits
    rw [show ((-62 : Int) - -1200).toNat = 1138 from by decide]
  have e4 : 26 * 2 ^ 1170 = 26 * 2 ^ 32 * 2 ^ 1138 := by rw [Nat.mul_assoc, ← Nat.pow_add]
  have hlt : FP.Core.inUnits c q (min q (-62)) < FP.Core.inUnits 4611686018427388 (-62) (min q (-62)) := by
    refine Nat.lt_of_mul_lt_mul_right (a := 2 ^ (min q (-62) - -1200).toNat) ?_
    rw [← e1, ← e2, e3]
    refine Nat.lt_of_le_of_lt hc ?_
    rw [e4]
    exact Nat.mul_lt_mul_of_pos_right (by decide) (Nat.two_pow_pos _)
  have : compare (FP.Core.signed false (FP.Core.inUnits c q (min q (-62)))) (FP.Core.signed false (FP.Core.inUnits 4611686018427388 (-62) (min q (-62)))) = Ordering.lt := by
    unfold FP.Core.signed
    rw [if_neg (by decide), if_neg (by decide)]
    show compareOfLessAndEq _ _ = _
    unfold compareOfLessAndEq
    rw [if_pos (by omega)]
  rw [this]
