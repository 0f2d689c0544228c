/-! Roster, readers, second half -/
def s_up (F : Nat → Nat → Int32) (a b : Nat) (r : Int32) : Bool := if r = 2 then (if s_exp F a b < 400 then true else false) else if r = 0 then (if s_exp F b a < 400 then true else false) else false
def s_matchU (F : Nat → Nat → Int32) (w m : Nat) : Option Nat := fo (fun k a => if k = w then a else if F 0 k = F 0 w then (match a with | none => some k | some b => if s_off F b w ≤ s_off F k w then some b else some k) else a) none m
def s_match (n : Nat) (F : Nat → Nat → Int32) (w : Nat) : Option Nat := s_matchU F w n
def pairB (F : Nat → Nat → Int32) (a b : Nat) (T : Int32 × Int32 × Int32) : Int32 × Int32 × Int32 := if F 0 a = F 0 b then (if T.1 = -1 ∨ F 4 a + F 4 b < T.2.1 ∨ (F 4 a + F 4 b = T.2.1 ∧ ¬ T.2.2 ≤ s_off F a b) then (nI a * 12 + nI b, F 4 a + F 4 b, s_off F a b) else T) else T
def s_pairI (F : Nat → Nat → Int32) (a m : Nat) (T : Int32 × Int32 × Int32) : Int32 × Int32 × Int32 := fo (fun b T => if a < b then pairB F a b T else T) T m
def s_pairU (n : Nat) (F : Nat → Nat → Int32) (m : Nat) : Int32 × Int32 × Int32 := fo (fun a T => s_pairI F a n T) (-1, 0, 0) m
def s_next (n : Nat) (F : Nat → Nat → Int32) : Int32 := (s_pairU n F n).1
theorem pairI_skip {F : Nat → Nat → Int32} {a : Nat} {T : Int32 × Int32 × Int32} : ∀ m, m ≤ a + 1 → s_pairI F a m T = T
  | 0, _ => rfl
  | m + 1, h => by
    show (if a < m then pairB F a m (s_pairI F a m T) else s_pairI F a m T) = T
    rw [if_neg (by omega), pairI_skip m (by omega)]
theorem pairI_s {F : Nat → Nat → Int32} {a b : Nat} {T : Int32 × Int32 × Int32} (h : a < b) : s_pairI F a (b + 1) T = pairB F a b (s_pairI F a b T) := if_pos h
theorem s_matchU_lt {F : Nat → Nat → Int32} {w : Nat} : ∀ (m k : Nat), s_matchU F w m = some k → k < m
  | 0, _, h => by cases h
  | m + 1, k, h => by
    have h' : (if m = w then s_matchU F w m else if F 0 m = F 0 w then (match s_matchU F w m with | none => some m | some b => if s_off F b w ≤ s_off F m w then some b else some m) else s_matchU F w m) = some k := h
    have ih := s_matchU_lt (F := F) (w := w) m k
    by_cases c1 : m = w
    · rw [if_pos c1] at h'; have := ih h'; omega
    · rw [if_neg c1] at h'
      by_cases c2 : F 0 m = F 0 w
      · rw [if_pos c2] at h'
        cases h2 : s_matchU F w m with
        | none => rw [h2] at h'; cases h'; omega
        | some b =>
          rw [h2] at h' ih
          have h3 : (if s_off F b w ≤ s_off F m w then some b else some m) = some k := h'
          by_cases c3 : s_off F b w ≤ s_off F m w
          · rw [if_pos c3] at h3; have := ih h3; omega
          · rw [if_neg c3] at h3; cases h3; omega
      · rw [if_neg c2] at h'; have := ih h'; omega
set_option maxHeartbeats 4000000 in
set_option maxRecDepth 100000 in
theorem c_X0_gain (l : Launch) (dC : Nat → ClassId) (dI : Nat → Nat → Nat) (cI : ClassId) (h : Nat) (ad : Nat → Nat) (n : Nat) (F : Nat → Nat → Int32) (w : Nat) (i_w : w < n) (o : Nat) (i_o : o < n) (vr : Int32) (hn : n ≤ 12) (hR : okR n F) : Met l yX0_gain wsX0_gain ({ frames := 3, cells := 0, slots := 0, locals := 58 } : Room) (va_Pc [.ref h, .int (nI w), .int (nI o), .int vr] (fun U => PR dC dI cI (wR h ad cI n F) U)) (vp_Si (fun r => r = s_gain F w o vr)) 0 0 (fun _ => False) := by
  refine Met.ofW (cc := cX0_gain) (maxL := 7) (ret := (some .int)) (by decide) rfl ?_
  intro p e s m args below meth c s₁ B hml hv
  obtain ⟨rfl, hP, hK, hE⟩ := hv
  have hx := B.exec
  have hb := B.bytes
  have hr := B.returns
  have hts := atoms_spec (ws := wsX0_gain) B.pre
  have hown : s.vm.findClass RX0 = some m.cls := findClass_of_methodNamed B.named
  have hlocks := B.notSynchronized
  have hS : va_S (fun _ => False) s.heap s.heap [] := va_S.rf
  have hinX0 : ∀ w ∈ wsX00, w ∈ wsX0_gain := by decide +kernel
  have hl := lv_entry ([.ref h, .int (nI w), .int (nI o), .int vr]) (n := 7) (Nat.le_of_ble_eq_true rfl)
  rw [lg_entry_eq]
  generalize (lg_sl ([.ref h, .int (nI w), .int (nI o), .int vr]) ++ List.replicate (7 - (lg_sl ([.ref h, .int (nI w), .int (nI o), .int vr])).length) Slot.unset).toArray = ls at hl ⊢
  have hl : lv_has ls 7 [(0, .ref h), (1, .int (nI w)), (2, .int (nI o)), (3, .int vr)] := hl
  refine lv_iload_n hx hb dX0_gain_0 rfl (lv_at hl 3 rfl) ?_
  refine lv_sipush (v := 500) hx hb dX0_gain_1 (by decide) ?_
  refine lv_imul hx hb dX0_gain_4 ?_
  refine lv_istore (lv' := [(4, .int (vr * 500)), (0, .ref h), (1, .int (nI w)), (2, .int (nI o)), (3, .int vr)]) hx hb dX0_gain_5 hl (by decide) rfl (fun ls hl => ?_)
  refine lv_aload_n hx hb dX0_gain_7 rfl (lv_at hl 1 rfl) ?_
  refine va_get (D := (dC, dI)) (ci := 0) (v := .ref (ad 1)) (C := RX0) (T := TX0) (N := 8) hx hb hts hinX0 hown hK hP 0 rfl rfl 1 (by decide) (hts (.fieldLink RX0 15 "WrestleBook$Roster" "ratings" "[I") (by decide +kernel)) (fun _ h9 => h9) rfl dX0_gain_8 ?_
  refine lv_iload_n hx hb dX0_gain_11 rfl (lv_at hl 2 rfl) ?_
  refine rv_iald (k := w) hx hb hK hP 2 0 rfl rfl (show w < 12 by omega) (by decide) dX0_gain_12 ?_
  refine lv_aload_n hx hb dX0_gain_13 rfl (lv_at hl 1 rfl) ?_
  refine lv_iload_n hx hb dX0_gain_14 rfl (lv_at hl 2 rfl) ?_
  refine vp_callSi (W.runV (As := [.int (nI w)]) (rest := [.int (F 1 w)]) ⟨hx, hb, hml, hown, hts⟩ (c_X0_weight l dC dI cI h ad n F w (show w < n by omega) hn) (cwV 1 hts gX0_gain_X0_weight rfl rfl rfl (by decide +kernel) ⟨Nat.le_of_ble_eq_true rfl, Nat.le_of_ble_eq_true rfl⟩) ⟨PR.blind, va_recv hK hP (ci := 0) (q0 := 0) rfl rfl, fun U hU hW => ⟨rfl, PR.go hP hK hE hS hU hW⟩⟩ rfl rfl hl.1 rfl (lv_room (Nat.le_of_ble_eq_true rfl)) dX0_gain_15 ⟨Nat.le_of_ble_eq_true rfl, Nat.le_of_ble_eq_true rfl⟩) (fun r hr0 => ?_)
  subst hr0
  refine lv_iload hx hb dX0_gain_18 (lv_at hl 0 rfl) ?_
  refine lv_aload_n hx hb dX0_gain_20 rfl (lv_at hl 1 rfl) ?_
  refine lv_iload_n hx hb dX0_gain_21 rfl (lv_at hl 2 rfl) ?_
  refine lv_iload_n hx hb dX0_gain_22 rfl (lv_at hl 3 rfl) ?_
  refine vp_callSi (W.runV (As := [.int (nI w), .int (nI o)]) (rest := [.int (vr * 500), .int (s_wt F w), .int (F 1 w)]) ⟨hx, hb, hml, hown, hts⟩ (c_X0_expectation l dC dI cI h ad n F w (show w < n by omega) o (show o < n by omega) hn hR) (cwV 2 hts gX0_gain_X0_expectation rfl rfl rfl (by decide +kernel) ⟨Nat.le_of_ble_eq_true rfl, Nat.le_of_ble_eq_true rfl⟩) ⟨PR.blind, va_recv hK hP (ci := 0) (q0 := 0) rfl rfl, fun U hU hW => ⟨rfl, PR.go hP hK hE hS hU hW⟩⟩ rfl rfl hl.1 rfl (lv_room (Nat.le_of_ble_eq_true rfl)) dX0_gain_23 ⟨Nat.le_of_ble_eq_true rfl, Nat.le_of_ble_eq_true rfl⟩) (fun r hr0 => ?_)
  subst hr0
  refine lv_isub hx hb dX0_gain_26 ?_
  refine lv_imul hx hb dX0_gain_27 ?_
  refine lv_sipush (v := 1000) hx hb dX0_gain_28 (by decide) ?_
  refine lv_idiv hx hb dX0_gain_31 (by decide) ?_
  refine lv_iadd hx hb dX0_gain_32 ?_
  refine lv_istore (lv' := [(5, .int ((F 1 w) + (((s_wt F w) * ((vr * 500) - (s_exp F w o))) / 1000))), (4, .int (vr * 500)), (0, .ref h), (1, .int (nI w)), (2, .int (nI o)), (3, .int vr)]) hx hb dX0_gain_33 hl (by decide) rfl (fun ls hl => ?_)
  refine lv_bipush (v := 100) hx hb dX0_gain_35 (by decide) ?_
  refine lv_sipush (v := 3000) hx hb dX0_gain_37 (by decide) ?_
  refine lv_iload hx hb dX0_gain_40 (lv_at hl 0 rfl) ?_
  refine va_mmin hx hb (hml.trans hl.1.symm) hown (hts (.methodLink RX0 47 Lib.Math.min.name) (by decide +kernel)) (hts (.static Lib.Math.min.name) (by decide +kernel)) (hts (.initialized "java/lang/Math") (by decide +kernel)) (hts (.code Lib.Math.min.name Lib.Math.min.code 2 (some .int)) (by decide +kernel)) (Nat.le_of_ble_eq_true rfl) (Nat.le_of_ble_eq_true rfl) (Nat.zero_le _) (Nat.zero_le _) dX0_gain_42 ?_
  refine rv_top (y := minI 3000 (F 1 w + s_wt F w * (vr * 500 - s_exp F w o) / 1000)) rfl ?_
  refine va_mmax hx hb (hml.trans hl.1.symm) hown (hts (.methodLink RX0 37 Lib.Math.max.name) (by decide +kernel)) (hts (.static Lib.Math.max.name) (by decide +kernel)) (hts (.initialized "java/lang/Math") (by decide +kernel)) (hts (.code Lib.Math.max.name Lib.Math.max.code 2 (some .int)) (by decide +kernel)) (Nat.le_of_ble_eq_true rfl) (Nat.le_of_ble_eq_true rfl) (Nat.zero_le _) (Nat.zero_le _) dX0_gain_45 ?_
  refine rv_top (y := s_then F w o (vr * 500)) rfl ?_
  refine lv_istore (lv' := [(6, .int (s_then F w o (vr * 500))), (5, .int ((F 1 w) + (((s_wt F w) * ((vr * 500) - (s_exp F w o))) / 1000))), (4, .int (vr * 500)), (0, .ref h), (1, .int (nI w)), (2, .int (nI o)), (3, .int vr)]) hx hb dX0_gain_48 hl (by decide) rfl (fun ls hl => ?_)
  refine lv_iload hx hb dX0_gain_50 (lv_at hl 0 rfl) ?_
  refine lv_aload_n hx hb dX0_gain_52 rfl (lv_at hl 3 rfl) ?_
  refine va_get (D := (dC, dI)) (ci := 0) (v := .ref (ad 1)) (C := RX0) (T := TX0) (N := 8) hx hb hts hinX0 hown hK hP 0 rfl rfl 1 (by decide) (hts (.fieldLink RX0 15 "WrestleBook$Roster" "ratings" "[I") (by decide +kernel)) (fun _ h9 => h9) rfl dX0_gain_53 ?_
  refine lv_iload_n hx hb dX0_gain_56 rfl (lv_at hl 4 rfl) ?_
  refine rv_iald (k := w) hx hb hK hP 2 0 rfl rfl (show w < 12 by omega) (by decide) dX0_gain_57 ?_
  refine lv_isub hx hb dX0_gain_58 ?_
  exact W.iret (v := (s_then F w o (vr * 500)) - (F 1 w)) hx hb hr (fun t ht hW => ⟨_, rfl, (show (s_then F w o (vr * 500)) - (F 1 w) = s_gain F w o vr from by rfl), ht⟩) hS.2.2 dX0_gain_59

set_option maxHeartbeats 4000000 in
set_option maxRecDepth 100000 in
theorem c_X0_isUpset (l : Launch) (dC : Nat → ClassId) (dI : Nat → Nat → Nat) (cI : ClassId) (h : Nat) (ad : Nat → Nat) (n : Nat) (F : Nat → Nat → Int32) (a : Nat) (i_a : a < n) (b : Nat) (i_b : b < n) (vr : Int32) (hn : n ≤ 12) (hR : okR n F) : Met l yX0_isUpset wsX0_isUpset ({ frames := 3, cells := 0, slots := 0, locals := 58 } : Room) (va_Pc [.ref h, .int (nI a), .int (nI b), .int vr] (fun U => PR dC dI cI (wR h ad cI n F) U)) (vp_Si (fun r => r = bI (s_up F a b vr))) 0 0 (fun _ => False) := by
  refine Met.ofW (cc := cX0_isUpset) (maxL := 4) (ret := (some .boolean)) (by decide) rfl ?_
  intro p e s m args below meth c s₁ B hml hv
  obtain ⟨rfl, hP, hK, hE⟩ := hv
  have hx := B.exec
  have hb := B.bytes
  have hr := B.returns
  have hts := atoms_spec (ws := wsX0_isUpset) B.pre
  have hown : s.vm.findClass RX0 = some m.cls := findClass_of_methodNamed B.named
  have hlocks := B.notSynchronized
  have hS : va_S (fun _ => False) s.heap s.heap [] := va_S.rf
  have hl := lv_entry ([.ref h, .int (nI a), .int (nI b), .int vr]) (n := 4) (Nat.le_of_ble_eq_true rfl)
  rw [lg_entry_eq]
  generalize (lg_sl ([.ref h, .int (nI a), .int (nI b), .int vr]) ++ List.replicate (4 - (lg_sl ([.ref h, .int (nI a), .int (nI b), .int vr])).length) Slot.unset).toArray = ls at hl ⊢
  have hl : lv_has ls 4 [(0, .ref h), (1, .int (nI a)), (2, .int (nI b)), (3, .int vr)] := hl
  refine lv_iload_n hx hb dX0_isUpset_0 rfl (lv_at hl 3 rfl) ?_
  refine lv_iconst (v := 2) hx hb dX0_isUpset_1 (by decide) ?_
  refine lv_icmp_ne (tgt := 17) hx hb dX0_isUpset_2 (by decide) (fun c_2 => ?_) (fun c_2 => ?_)
  · refine lv_iload_n hx hb dX0_isUpset_17 rfl (lv_at hl 3 rfl) ?_
    refine lv_if_ne (tgt := 37) hx hb dX0_isUpset_18 (by decide) (fun c_18 => ?_) (fun c_18 => ?_)
    · refine lv_iconst (v := 0) hx hb dX0_isUpset_37 (by decide) ?_
      exact W.zret (v := 0) hx hb hr (by decide) (fun t ht hW => ⟨_, rfl, (show 0 = bI (s_up F a b vr) from by first | (simp [s_up, bI, i32_lt_iff, c_2, c_18]; done) | exact absurd (c_2.symm.trans c_18) (by decide)), ht⟩) hS.2.2 dX0_isUpset_38
    · refine lv_aload_n hx hb dX0_isUpset_21 rfl (lv_at hl 0 rfl) ?_
      refine lv_iload_n hx hb dX0_isUpset_22 rfl (lv_at hl 2 rfl) ?_
      refine lv_iload_n hx hb dX0_isUpset_23 rfl (lv_at hl 1 rfl) ?_
      refine vp_callSi (W.runV (As := [.int (nI b), .int (nI a)]) (rest := []) ⟨hx, hb, hml, hown, hts⟩ (c_X0_expectation l dC dI cI h ad n F b (show b < n by omega) a (show a < n by omega) hn hR) (cwV 2 hts gX0_isUpset_X0_expectation rfl rfl rfl (by decide +kernel) ⟨Nat.le_of_ble_eq_true rfl, Nat.le_of_ble_eq_true rfl⟩) ⟨PR.blind, va_recv hK hP (ci := 0) (q0 := 0) rfl rfl, fun U hU hW => ⟨rfl, PR.go hP hK hE hS hU hW⟩⟩ rfl rfl hl.1 rfl (lv_room (Nat.le_of_ble_eq_true rfl)) dX0_isUpset_24 ⟨Nat.le_of_ble_eq_true rfl, Nat.le_of_ble_eq_true rfl⟩) (fun r hr0 => ?_)
      subst hr0
      refine lv_sipush (v := 400) hx hb dX0_isUpset_27 (by decide) ?_
      refine lv_icmp_ge (tgt := 37) hx hb dX0_isUpset_30 (by decide) (fun c_30 => ?_) (fun c_30 => ?_)
      · refine lv_iconst (v := 0) hx hb dX0_isUpset_37 (by decide) ?_
        exact W.zret (v := 0) hx hb hr (by decide) (fun t ht hW => ⟨_, rfl, (show 0 = bI (s_up F a b vr) from by first | (simp [s_up, bI, i32_lt_iff, c_2, c_18, c_30]; done) | exact absurd (c_2.symm.trans c_18) (by decide)), ht⟩) hS.2.2 dX0_isUpset_38
      · refine lv_iconst (v := 1) hx hb dX0_isUpset_33 (by decide) ?_
        refine lv_goto (tgt := 38) hx hb dX0_isUpset_34 (by decide) ?_
        exact W.zret (v := 1) hx hb hr (by decide) (fun t ht hW => ⟨_, rfl, (show 1 = bI (s_up F a b vr) from by first | (simp [s_up, bI, i32_lt_iff, c_2, c_18, c_30]; done) | exact absurd (c_2.symm.trans c_18) (by decide)), ht⟩) hS.2.2 dX0_isUpset_38
  · refine lv_aload_n hx hb dX0_isUpset_5 rfl (lv_at hl 0 rfl) ?_
    refine lv_iload_n hx hb dX0_isUpset_6 rfl (lv_at hl 1 rfl) ?_
    refine lv_iload_n hx hb dX0_isUpset_7 rfl (lv_at hl 2 rfl) ?_
    refine vp_callSi (W.runV (As := [.int (nI a), .int (nI b)]) (rest := []) ⟨hx, hb, hml, hown, hts⟩ (c_X0_expectation l dC dI cI h ad n F a (show a < n by omega) b (show b < n by omega) hn hR) (cwV 2 hts gX0_isUpset_X0_expectation rfl rfl rfl (by decide +kernel) ⟨Nat.le_of_ble_eq_true rfl, Nat.le_of_ble_eq_true rfl⟩) ⟨PR.blind, va_recv hK hP (ci := 0) (q0 := 0) rfl rfl, fun U hU hW => ⟨rfl, PR.go hP hK hE hS hU hW⟩⟩ rfl rfl hl.1 rfl (lv_room (Nat.le_of_ble_eq_true rfl)) dX0_isUpset_8 ⟨Nat.le_of_ble_eq_true rfl, Nat.le_of_ble_eq_true rfl⟩) (fun r hr0 => ?_)
    subst hr0
    refine lv_sipush (v := 400) hx hb dX0_isUpset_11 (by decide) ?_
    refine lv_icmp_lt (tgt := 33) hx hb dX0_isUpset_14 (by decide) (fun c_14 => ?_) (fun c_14 => ?_)
    · refine lv_iconst (v := 1) hx hb dX0_isUpset_33 (by decide) ?_
      refine lv_goto (tgt := 38) hx hb dX0_isUpset_34 (by decide) ?_
      exact W.zret (v := 1) hx hb hr (by decide) (fun t ht hW => ⟨_, rfl, (show 1 = bI (s_up F a b vr) from by first | (simp [s_up, bI, i32_lt_iff, c_2, c_14]; done) | exact absurd (c_2.symm.trans c_18) (by decide)), ht⟩) hS.2.2 dX0_isUpset_38
    · refine lv_iload_n hx hb dX0_isUpset_17 rfl (lv_at hl 3 rfl) ?_
      refine lv_if_ne (tgt := 37) hx hb dX0_isUpset_18 (by decide) (fun c_18 => ?_) (fun c_18 => ?_)
      · refine lv_iconst (v := 0) hx hb dX0_isUpset_37 (by decide) ?_
        exact W.zret (v := 0) hx hb hr (by decide) (fun t ht hW => ⟨_, rfl, (show 0 = bI (s_up F a b vr) from by first | (simp [s_up, bI, i32_lt_iff, c_2, c_14, c_18]; done) | exact absurd (c_2.symm.trans c_18) (by decide)), ht⟩) hS.2.2 dX0_isUpset_38
      · refine lv_aload_n hx hb dX0_isUpset_21 rfl (lv_at hl 0 rfl) ?_
        refine lv_iload_n hx hb dX0_isUpset_22 rfl (lv_at hl 2 rfl) ?_
        refine lv_iload_n hx hb dX0_isUpset_23 rfl (lv_at hl 1 rfl) ?_
        refine vp_callSi (W.runV (As := [.int (nI b), .int (nI a)]) (rest := []) ⟨hx, hb, hml, hown, hts⟩ (c_X0_expectation l dC dI cI h ad n F b (show b < n by omega) a (show a < n by omega) hn hR) (cwV 2 hts gX0_isUpset_X0_expectation rfl rfl rfl (by decide +kernel) ⟨Nat.le_of_ble_eq_true rfl, Nat.le_of_ble_eq_true rfl⟩) ⟨PR.blind, va_recv hK hP (ci := 0) (q0 := 0) rfl rfl, fun U hU hW => ⟨rfl, PR.go hP hK hE hS hU hW⟩⟩ rfl rfl hl.1 rfl (lv_room (Nat.le_of_ble_eq_true rfl)) dX0_isUpset_24 ⟨Nat.le_of_ble_eq_true rfl, Nat.le_of_ble_eq_true rfl⟩) (fun r hr0 => ?_)
        subst hr0
        refine lv_sipush (v := 400) hx hb dX0_isUpset_27 (by decide) ?_
        refine lv_icmp_ge (tgt := 37) hx hb dX0_isUpset_30 (by decide) (fun c_30 => ?_) (fun c_30 => ?_)
        · refine lv_iconst (v := 0) hx hb dX0_isUpset_37 (by decide) ?_
          exact W.zret (v := 0) hx hb hr (by decide) (fun t ht hW => ⟨_, rfl, (show 0 = bI (s_up F a b vr) from by first | (simp [s_up, bI, i32_lt_iff, c_2, c_14, c_18, c_30]; done) | exact absurd (c_2.symm.trans c_18) (by decide)), ht⟩) hS.2.2 dX0_isUpset_38
        · refine lv_iconst (v := 1) hx hb dX0_isUpset_33 (by decide) ?_
          refine lv_goto (tgt := 38) hx hb dX0_isUpset_34 (by decide) ?_
          exact W.zret (v := 1) hx hb hr (by decide) (fun t ht hW => ⟨_, rfl, (show 1 = bI (s_up F a b vr) from by first | (simp [s_up, bI, i32_lt_iff, c_2, c_14, c_18, c_30]; done) | exact absurd (c_2.symm.trans c_18) (by decide)), ht⟩) hS.2.2 dX0_isUpset_38

set_option maxHeartbeats 4000000 in
set_option maxRecDepth 100000 in
theorem c_X0_unevenness (l : Launch) (dC : Nat → ClassId) (dI : Nat → Nat → Nat) (cI : ClassId) (h : Nat) (ad : Nat → Nat) (n : Nat) (F : Nat → Nat → Int32) (a : Nat) (i_a : a < n) (b : Nat) (i_b : b < n) (hn : n ≤ 12) (hR : okR n F) : Met l yX0_unevenness wsX0_unevenness ({ frames := 3, cells := 0, slots := 0, locals := 58 } : Room) (va_Pc [.ref h, .int (nI a), .int (nI b)] (fun U => PR dC dI cI (wR h ad cI n F) U)) (vp_Si (fun r => r = s_off F a b)) 0 0 (fun _ => False) := by
  refine Met.ofW (cc := cX0_unevenness) (maxL := 3) (ret := (some .int)) (by decide) rfl ?_
  intro p e s m args below meth c s₁ B hml hv
  obtain ⟨rfl, hP, hK, hE⟩ := hv
  have hx := B.exec
  have hb := B.bytes
  have hr := B.returns
  have hts := atoms_spec (ws := wsX0_unevenness) B.pre
  have hown : s.vm.findClass RX0 = some m.cls := findClass_of_methodNamed B.named
  have hlocks := B.notSynchronized
  have hS : va_S (fun _ => False) s.heap s.heap [] := va_S.rf
  have hl := lv_entry ([.ref h, .int (nI a), .int (nI b)]) (n := 3) (Nat.le_of_ble_eq_true rfl)
  rw [lg_entry_eq]
  generalize (lg_sl ([.ref h, .int (nI a), .int (nI b)]) ++ List.replicate (3 - (lg_sl ([.ref h, .int (nI a), .int (nI b)])).length) Slot.unset).toArray = ls at hl ⊢
  have hl : lv_has ls 3 [(0, .ref h), (1, .int (nI a)), (2, .int (nI b))] := hl
  refine lv_aload_n hx hb dX0_unevenness_0 rfl (lv_at hl 0 rfl) ?_
  refine lv_iload_n hx hb dX0_unevenness_1 rfl (lv_at hl 1 rfl) ?_
  refine lv_iload_n hx hb dX0_unevenness_2 rfl (lv_at hl 2 rfl) ?_
  refine vp_callSi (W.runV (As := [.int (nI a), .int (nI b)]) (rest := []) ⟨hx, hb, hml, hown, hts⟩ (c_X0_expectation l dC dI cI h ad n F a (show a < n by omega) b (show b < n by omega) hn hR) (cwV 2 hts gX0_unevenness_X0_expectation rfl rfl rfl (by decide +kernel) ⟨Nat.le_of_ble_eq_true rfl, Nat.le_of_ble_eq_true rfl⟩) ⟨PR.blind, va_recv hK hP (ci := 0) (q0 := 0) rfl rfl, fun U hU hW => ⟨rfl, PR.go hP hK hE hS hU hW⟩⟩ rfl rfl hl.1 rfl (lv_room (Nat.le_of_ble_eq_true rfl)) dX0_unevenness_3 ⟨Nat.le_of_ble_eq_true rfl, Nat.le_of_ble_eq_true rfl⟩) (fun r hr0 => ?_)
  subst hr0
  refine lv_sipush (v := 500) hx hb dX0_unevenness_6 (by decide) ?_
  refine lv_isub hx hb dX0_unevenness_9 ?_
  refine va_mabs hx hb (hml.trans hl.1.symm) hown (hts (.methodLink RX0 87 Lib.Math.abs.name) (by decide +kernel)) (hts (.static Lib.Math.abs.name) (by decide +kernel)) (hts (.initialized "java/lang/Math") (by decide +kernel)) (hts (.code Lib.Math.abs.name Lib.Math.abs.code 1 (some .int)) (by decide +kernel)) (Nat.le_of_ble_eq_true rfl) (Nat.le_of_ble_eq_true rfl) (Nat.zero_le _) (Nat.zero_le _) dX0_unevenness_10 ?_
  refine rv_top (y := s_off F a b) rfl ?_
  exact W.iret (v := s_off F a b) hx hb hr (fun t ht hW => ⟨_, rfl, (show s_off F a b = s_off F a b from by rfl), ht⟩) hS.2.2 dX0_unevenness_13

set_option maxHeartbeats 4000000 in
set_option maxRecDepth 100000 in
theorem c_X0_evenest (l : Launch) (dC : Nat → ClassId) (dI : Nat → Nat → Nat) (cI : ClassId) (h : Nat) (ad : Nat → Nat) (n : Nat) (F : Nat → Nat → Int32) (w : Nat) (i_w : w < n) (hn : n ≤ 12) (hR : okR n F) : Met l yX0_evenest wsX0_evenest ({ frames := 4, cells := 0, slots := 0, locals := 80 } : Room) (va_Pc [.ref h, .int (nI w)] (fun U => PR dC dI cI (wR h ad cI n F) U)) (vp_Si (fun r => r = oI (s_match n F w))) 0 0 (fun _ => False) := by
  refine Met.ofW (cc := cX0_evenest) (maxL := 4) (ret := (some .int)) (by decide) rfl ?_
  intro p e s m args below meth c s₁ B hml hv
  obtain ⟨rfl, hP, hK, hE⟩ := hv
  have hx := B.exec
  have hb := B.bytes
  have hr := B.returns
  have hts := atoms_spec (ws := wsX0_evenest) B.pre
  have hown : s.vm.findClass RX0 = some m.cls := findClass_of_methodNamed B.named
  have hlocks := B.notSynchronized
  have hS : va_S (fun _ => False) s.heap s.heap [] := va_S.rf
  have hinX0 : ∀ w ∈ wsX00, w ∈ wsX0_evenest := by decide +kernel
  have hl := lv_entry ([.ref h, .int (nI w)]) (n := 4) (Nat.le_of_ble_eq_true rfl)
  rw [lg_entry_eq]
  generalize (lg_sl ([.ref h, .int (nI w)]) ++ List.replicate (4 - (lg_sl ([.ref h, .int (nI w)])).length) Slot.unset).toArray = ls at hl ⊢
  have hl : lv_has ls 4 [(0, .ref h), (1, .int (nI w))] := hl
  refine lv_iconst (v := (-1)) hx hb dX0_evenest_0 (by decide) ?_
  refine lv_istore_n (lv' := [(2, .int (-1)), (0, .ref h), (1, .int (nI w))]) hx hb dX0_evenest_1 rfl hl (by decide) rfl (fun ls hl => ?_)
  refine lv_iconst (v := 0) hx hb dX0_evenest_2 (by decide) ?_
  refine lv_istore_n (lv' := [(3, .int 0), (2, .int (-1)), (0, .ref h), (1, .int (nI w))]) hx hb dX0_evenest_3 rfl hl (by decide) rfl (fun ls hl => ?_)
  have L_4 : ∀ (k i : Nat) (o2 : Option Nat), i + k = n → o2 = s_matchU F w i → ∀ (ls : Array Slot), lv_has ls 4 [(3, .int (nI i)), (2, .int (oI o2)), (0, .ref h), (1, .int (nI w))] → W p l e (headSpec wsX0_evenest ({ frames := 4, cells := 0, slots := 0, locals := 80 } : Room)).room s m ([.ref h, .int (nI w)] : List Value).toArray below meth c s.heap [] 0 0 (MQ below (vp_Si (fun r => r = oI (s_match n F w))) ([.ref h, .int (nI w)] : List Value).toArray s 0 0 (fun _ => False)) (F0 m 4 ls []) := by
    intro k
    induction k with
    | zero =>
      intro i o2 e_i ho2 ls hl
      refine lv_iload_n hx hb dX0_evenest_4 rfl (lv_at hl 0 rfl) ?_
      refine lv_aload_n hx hb dX0_evenest_5 rfl (lv_at hl 2 rfl) ?_
      refine va_get (D := (dC, dI)) (ci := 0) (v := .int (nI n)) (C := RX0) (T := TX0) (N := 8) hx hb hts hinX0 hown hK hP 0 rfl rfl 7 (by decide) (hts (.fieldLink RX0 33 "WrestleBook$Roster" "size" "I") (by decide +kernel)) (fun _ h9 => h9) rfl dX0_evenest_6 ?_
      refine rv_icmp_ge (tgt := 63) hx hb (a := i) (b := n) (by omega) (by omega) dX0_evenest_9 (by decide) (fun c_9 => ?_) (fun c_9 => ?_)
      · refine lv_iload_n hx hb dX0_evenest_63 rfl (lv_at hl 1 rfl) ?_
        exact W.iret (v := oI o2) hx hb hr (fun t ht hW => ⟨_, rfl, (show oI o2 = oI (s_match n F w) from by rw [ho2, show i = n by omega]; rfl), ht⟩) hS.2.2 dX0_evenest_64
      · exact absurd c_9 (by omega)
    | succ k ih_4 =>
      intro i o2 e_i ho2 ls hl
      refine lv_iload_n hx hb dX0_evenest_4 rfl (lv_at hl 0 rfl) ?_
      refine lv_aload_n hx hb dX0_evenest_5 rfl (lv_at hl 2 rfl) ?_
      refine va_get (D := (dC, dI)) (ci := 0) (v := .int (nI n)) (C := RX0) (T := TX0) (N := 8) hx hb hts hinX0 hown hK hP 0 rfl rfl 7 (by decide) (hts (.fieldLink RX0 33 "WrestleBook$Roster" "size" "I") (by decide +kernel)) (fun _ h9 => h9) rfl dX0_evenest_6 ?_
      refine rv_icmp_ge (tgt := 63) hx hb (a := i) (b := n) (by omega) (by omega) dX0_evenest_9 (by decide) (fun c_9 => ?_) (fun c_9 => ?_)
      · exact absurd c_9 (by omega)
      · refine lv_iload_n hx hb dX0_evenest_12 rfl (lv_at hl 0 rfl) ?_
        refine lv_iload_n hx hb dX0_evenest_13 rfl (lv_at hl 3 rfl) ?_
        refine rv_icmp_eq (tgt := 57) hx hb (a := i) (b := w) (by omega) (by omega) dX0_evenest_14 (by decide) (fun c_14 => ?_) (fun c_14 => ?_)
        · refine lv_iinc (v := nI (i + 1)) (lv' := [(3, .int (nI (i + 1))), (2, .int (oI o2)), (0, .ref h), (1, .int (nI w))]) hx hb dX0_evenest_57 hl (k := 0) rfl (nI_add i 1) (by decide) rfl (fun ls hl => ?_)
          refine lv_goto (tgt := 4) hx hb dX0_evenest_60 (by decide) ?_
          exact ih_4 (i + 1) o2 (by omega) (by simp only [s_matchU, fo_s] at ho2 ⊢; rw [← ho2]; simp [c_9, (show i < n from by omega), c_14]) ls (lv_sub hl [0, 1, 2, 3] rfl)
        · refine lv_aload_n hx hb dX0_evenest_17 rfl (lv_at hl 2 rfl) ?_
          refine va_get (D := (dC, dI)) (ci := 0) (v := .ref (ad 0)) (C := RX0) (T := TX0) (N := 8) hx hb hts hinX0 hown hK hP 0 rfl rfl 0 (by decide) (hts (.fieldLink RX0 9 "WrestleBook$Roster" "leagues" "[I") (by decide +kernel)) (fun _ h9 => h9) rfl dX0_evenest_18 ?_
          refine lv_iload_n hx hb dX0_evenest_21 rfl (lv_at hl 0 rfl) ?_
          refine rv_iald (k := i) hx hb hK hP 1 0 rfl rfl (show i < 12 by omega) (by decide) dX0_evenest_22 ?_
          refine lv_aload_n hx hb dX0_evenest_23 rfl (lv_at hl 2 rfl) ?_
          refine va_get (D := (dC, dI)) (ci := 0) (v := .ref (ad 0)) (C := RX0) (T := TX0) (N := 8) hx hb hts hinX0 hown hK hP 0 rfl rfl 0 (by decide) (hts (.fieldLink RX0 9 "WrestleBook$Roster" "leagues" "[I") (by decide +kernel)) (fun _ h9 => h9) rfl dX0_evenest_24 ?_
          refine lv_iload_n hx hb dX0_evenest_27 rfl (lv_at hl 3 rfl) ?_
          refine rv_iald (k := w) hx hb hK hP 1 0 rfl rfl (show w < 12 by omega) (by decide) dX0_evenest_28 ?_
          refine lv_icmp_eq (tgt := 35) hx hb dX0_evenest_29 (by decide) (fun c_29 => ?_) (fun c_29 => ?_)
          · refine lv_iload_n hx hb dX0_evenest_35 rfl (lv_at hl 1 rfl) ?_
            rcases o2 with _ | b2
            · refine rv_top (y := -1) rfl ?_
              refine lv_iconst (v := (-1)) hx hb dX0_evenest_36 (by decide) ?_
              refine lv_icmp_eq (tgt := 55) hx hb dX0_evenest_37 (by decide) (fun c_37 => ?_) (fun c_37 => ?_)
              · refine lv_iload_n hx hb dX0_evenest_55 rfl (lv_at hl 0 rfl) ?_
                refine lv_istore_n (lv' := [(2, .int (nI i)), (3, .int (nI i)), (0, .ref h), (1, .int (nI w))]) hx hb dX0_evenest_56 rfl hl (by decide) rfl (fun ls hl => ?_)
                refine lv_iinc (v := nI (i + 1)) (lv' := [(3, .int (nI (i + 1))), (2, .int (nI i)), (0, .ref h), (1, .int (nI w))]) hx hb dX0_evenest_57 hl (k := 1) rfl (nI_add i 1) (by decide) rfl (fun ls hl => ?_)
                refine lv_goto (tgt := 4) hx hb dX0_evenest_60 (by decide) ?_
                exact ih_4 (i + 1) (some i) (by omega) (by simp only [s_matchU, fo_s] at ho2 ⊢; rw [← ho2]; simp [c_9, (show i < n from by omega), c_14, c_29, c_37]) ls (lv_sub hl [0, 1, 2, 3] rfl)
              · exact absurd c_37 (by decide)
            · refine rv_top (y := nI b2) rfl ?_
              have i_b2 : b2 < n := Nat.lt_trans (s_matchU_lt i b2 ho2.symm) (by omega)
              refine lv_iconst (v := (-1)) hx hb dX0_evenest_36 (by decide) ?_
              refine lv_icmp_eq (tgt := 55) hx hb dX0_evenest_37 (by decide) (fun c_37 => ?_) (fun c_37 => ?_)
              · exact absurd c_37 (nI_m1 (by omega))
              · refine lv_aload_n hx hb dX0_evenest_40 rfl (lv_at hl 2 rfl) ?_
                refine lv_iload_n hx hb dX0_evenest_41 rfl (lv_at hl 0 rfl) ?_
                refine lv_iload_n hx hb dX0_evenest_42 rfl (lv_at hl 3 rfl) ?_
                refine vp_callSi (W.runV (As := [.int (nI i), .int (nI w)]) (rest := []) ⟨hx, hb, hml, hown, hts⟩ (c_X0_unevenness l dC dI cI h ad n F i (show i < n by omega) w (show w < n by omega) hn hR) (cwV 2 hts gX0_evenest_X0_unevenness rfl rfl rfl (by decide +kernel) ⟨Nat.le_of_ble_eq_true rfl, Nat.le_of_ble_eq_true rfl⟩) ⟨PR.blind, va_recv hK hP (ci := 0) (q0 := 0) rfl rfl, fun U hU hW => ⟨rfl, PR.go hP hK hE hS hU hW⟩⟩ rfl rfl hl.1 rfl (lv_room (Nat.le_of_ble_eq_true rfl)) dX0_evenest_43 ⟨Nat.le_of_ble_eq_true rfl, Nat.le_of_ble_eq_true rfl⟩) (fun r hr0 => ?_)
                subst hr0
                refine lv_aload_n hx hb dX0_evenest_46 rfl (lv_at hl 2 rfl) ?_
                refine lv_iload_n hx hb dX0_evenest_47 rfl (lv_at hl 1 rfl) ?_
                refine lv_iload_n hx hb dX0_evenest_48 rfl (lv_at hl 3 rfl) ?_
                refine vp_callSi (W.runV (As := [.int (nI b2), .int (nI w)]) (rest := [.int (s_off F i w)]) ⟨hx, hb, hml, hown, hts⟩ (c_X0_unevenness l dC dI cI h ad n F b2 (show b2 < n by omega) w (show w < n by omega) hn hR) (cwV 2 hts gX0_evenest_X0_unevenness rfl rfl rfl (by decide +kernel) ⟨Nat.le_of_ble_eq_true rfl, Nat.le_of_ble_eq_true rfl⟩) ⟨PR.blind, va_recv hK hP (ci := 0) (q0 := 0) rfl rfl, fun U hU hW => ⟨rfl, PR.go hP hK hE hS hU hW⟩⟩ rfl rfl hl.1 rfl (lv_room (Nat.le_of_ble_eq_true rfl)) dX0_evenest_49 ⟨Nat.le_of_ble_eq_true rfl, Nat.le_of_ble_eq_true rfl⟩) (fun r hr0 => ?_)
                subst hr0
                refine lv_icmp_ge (tgt := 57) hx hb dX0_evenest_52 (by decide) (fun c_52 => ?_) (fun c_52 => ?_)
                · refine lv_iinc (v := nI (i + 1)) (lv' := [(3, .int (nI (i + 1))), (2, .int (nI b2)), (0, .ref h), (1, .int (nI w))]) hx hb dX0_evenest_57 hl (k := 0) rfl (nI_add i 1) (by decide) rfl (fun ls hl => ?_)
                  refine lv_goto (tgt := 4) hx hb dX0_evenest_60 (by decide) ?_
                  exact ih_4 (i + 1) (some b2) (by omega) (by simp only [s_matchU, fo_s] at ho2 ⊢; rw [← ho2]; simp [c_9, (show i < n from by omega), c_14, c_29, c_37, c_52]) ls (lv_sub hl [0, 1, 2, 3] rfl)
                · refine lv_iload_n hx hb dX0_evenest_55 rfl (lv_at hl 0 rfl) ?_
                  refine lv_istore_n (lv' := [(2, .int (nI i)), (3, .int (nI i)), (0, .ref h), (1, .int (nI w))]) hx hb dX0_evenest_56 rfl hl (by decide) rfl (fun ls hl => ?_)
                  refine lv_iinc (v := nI (i + 1)) (lv' := [(3, .int (nI (i + 1))), (2, .int (nI i)), (0, .ref h), (1, .int (nI w))]) hx hb dX0_evenest_57 hl (k := 1) rfl (nI_add i 1) (by decide) rfl (fun ls hl => ?_)
                  refine lv_goto (tgt := 4) hx hb dX0_evenest_60 (by decide) ?_
                  exact ih_4 (i + 1) (some i) (by omega) (by simp only [s_matchU, fo_s] at ho2 ⊢; rw [← ho2]; simp [c_9, (show i < n from by omega), c_14, c_29, c_37, c_52]) ls (lv_sub hl [0, 1, 2, 3] rfl)
          · refine lv_goto (tgt := 57) hx hb dX0_evenest_32 (by decide) ?_
            refine lv_iinc (v := nI (i + 1)) (lv' := [(3, .int (nI (i + 1))), (2, .int (oI o2)), (0, .ref h), (1, .int (nI w))]) hx hb dX0_evenest_57 hl (k := 0) rfl (nI_add i 1) (by decide) rfl (fun ls hl => ?_)
            refine lv_goto (tgt := 4) hx hb dX0_evenest_60 (by decide) ?_
            exact ih_4 (i + 1) o2 (by omega) (by simp only [s_matchU, fo_s] at ho2 ⊢; rw [← ho2]; simp [c_9, (show i < n from by omega), c_14, c_29]) ls (lv_sub hl [0, 1, 2, 3] rfl)
  exact L_4 n 0 none (by omega) rfl ls (lv_sub hl [0, 1, 2, 3] rfl)

set_option maxHeartbeats 4000000 in
set_option maxRecDepth 100000 in
theorem c_X0_bestPair (l : Launch) (dC : Nat → ClassId) (dI : Nat → Nat → Nat) (cI : ClassId) (h : Nat) (ad : Nat → Nat) (n : Nat) (F : Nat → Nat → Int32) (hn : n ≤ 12) (hR : okR n F) : Met l yX0_bestPair wsX0_bestPair ({ frames := 4, cells := 0, slots := 0, locals := 80 } : Room) (va_Pc [.ref h] (fun U => PR dC dI cI (wR h ad cI n F) U)) (vp_Si (fun r => r = s_next n F)) 0 0 (fun _ => False) := by
  refine Met.ofW (cc := cX0_bestPair) (maxL := 8) (ret := (some .int)) (by decide) rfl ?_
  intro p e s m args below meth c s₁ B hml hv
  obtain ⟨rfl, hP, hK, hE⟩ := hv
  have hx := B.exec
  have hb := B.bytes
  have hr := B.returns
  have hts := atoms_spec (ws := wsX0_bestPair) B.pre
  have hown : s.vm.findClass RX0 = some m.cls := findClass_of_methodNamed B.named
  have hlocks := B.notSynchronized
  have hS : va_S (fun _ => False) s.heap s.heap [] := va_S.rf
  have hinX0 : ∀ w ∈ wsX00, w ∈ wsX0_bestPair := by decide +kernel
  have hl := lv_entry ([.ref h]) (n := 8) (Nat.le_of_ble_eq_true rfl)
  rw [lg_entry_eq]
  generalize (lg_sl ([.ref h]) ++ List.replicate (8 - (lg_sl ([.ref h])).length) Slot.unset).toArray = ls at hl ⊢
  have hl : lv_has ls 8 [(0, .ref h)] := hl
  refine lv_iconst (v := (-1)) hx hb dX0_bestPair_0 (by decide) ?_
  refine lv_istore_n (lv' := [(1, .int (-1)), (0, .ref h)]) hx hb dX0_bestPair_1 rfl hl (by decide) rfl (fun ls hl => ?_)
  refine lv_iconst (v := 0) hx hb dX0_bestPair_2 (by decide) ?_
  refine lv_istore_n (lv' := [(2, .int 0), (1, .int (-1)), (0, .ref h)]) hx hb dX0_bestPair_3 rfl hl (by decide) rfl (fun ls hl => ?_)
  refine lv_iconst (v := 0) hx hb dX0_bestPair_4 (by decide) ?_
  refine lv_istore_n (lv' := [(3, .int 0), (2, .int 0), (1, .int (-1)), (0, .ref h)]) hx hb dX0_bestPair_5 rfl hl (by decide) rfl (fun ls hl => ?_)
  refine lv_iconst (v := 0) hx hb dX0_bestPair_6 (by decide) ?_
  refine lv_istore (lv' := [(4, .int 0), (3, .int 0), (2, .int 0), (1, .int (-1)), (0, .ref h)]) hx hb dX0_bestPair_7 hl (by decide) rfl (fun ls hl => ?_)
  have L_9 : ∀ (ka a : Nat) (x1 : Int32) (x2 : Int32) (x3 : Int32), a + ka = n → (x1, x2, x3) = s_pairU n F a → ∀ (ls : Array Slot), lv_has ls 8 [(4, .int (nI a)), (3, .int x3), (2, .int x2), (1, .int x1), (0, .ref h)] → W p l e (headSpec wsX0_bestPair ({ frames := 4, cells := 0, slots := 0, locals := 80 } : Room)).room s m ([.ref h] : List Value).toArray below meth c s.heap [] 0 0 (MQ below (vp_Si (fun r => r = s_next n F)) ([.ref h] : List Value).toArray s 0 0 (fun _ => False)) (F0 m 9 ls []) := by
    intro ka
    induction ka with
    | zero =>
      intro a x1 x2 x3 e_a hxx ls hl
      refine lv_iload hx hb dX0_bestPair_9 (lv_at hl 0 rfl) ?_
      refine lv_aload_n hx hb dX0_bestPair_11 rfl (lv_at hl 4 rfl) ?_
      refine va_get (D := (dC, dI)) (ci := 0) (v := .int (nI n)) (C := RX0) (T := TX0) (N := 8) hx hb hts hinX0 hown hK hP 0 rfl rfl 7 (by decide) (hts (.fieldLink RX0 33 "WrestleBook$Roster" "size" "I") (by decide +kernel)) (fun _ h9 => h9) rfl dX0_bestPair_12 ?_
      refine rv_icmp_ge (tgt := 130) hx hb (a := a) (b := n) (by omega) (by omega) dX0_bestPair_15 (by decide) (fun c_15 => ?_) (fun c_15 => ?_)
      · refine lv_iload_n hx hb dX0_bestPair_130 rfl (lv_at hl 3 rfl) ?_
        exact W.iret (v := x1) hx hb hr (fun t ht hW => ⟨_, rfl, (show x1 = s_next n F from by show x1 = (s_pairU n F n).1; rw [show (s_pairU n F n) = (x1, x2, x3) by rw [hxx, show a = n by omega]]), ht⟩) hS.2.2 dX0_bestPair_131
      · exact absurd c_15 (by omega)
    | succ ka ih_9 =>
      intro a x1 x2 x3 e_a hxx ls hl
      refine lv_iload hx hb dX0_bestPair_9 (lv_at hl 0 rfl) ?_
      refine lv_aload_n hx hb dX0_bestPair_11 rfl (lv_at hl 4 rfl) ?_
      refine va_get (D := (dC, dI)) (ci := 0) (v := .int (nI n)) (C := RX0) (T := TX0) (N := 8) hx hb hts hinX0 hown hK hP 0 rfl rfl 7 (by decide) (hts (.fieldLink RX0 33 "WrestleBook$Roster" "size" "I") (by decide +kernel)) (fun _ h9 => h9) rfl dX0_bestPair_12 ?_
      refine rv_icmp_ge (tgt := 130) hx hb (a := a) (b := n) (by omega) (by omega) dX0_bestPair_15 (by decide) (fun c_15 => ?_) (fun c_15 => ?_)
      · exact absurd c_15 (by omega)
      · refine lv_iload hx hb dX0_bestPair_18 (lv_at hl 0 rfl) ?_
        refine lv_iconst (v := 1) hx hb dX0_bestPair_20 (by decide) ?_
        refine lv_iadd hx hb dX0_bestPair_21 ?_
        refine rv_top (y := nI (a + 1)) (nI_1 a) ?_
        refine lv_istore (lv' := [(5, .int (nI (a + 1))), (4, .int (nI a)), (3, .int x3), (2, .int x2), (1, .int x1), (0, .ref h)]) hx hb dX0_bestPair_22 hl (by decide) rfl (fun ls hl => ?_)
        have L_24 : ∀ (kb b : Nat) (y1 : Int32) (y2 : Int32) (y3 : Int32), b + kb = n → a < b → (y1, y2, y3) = s_pairI F a b (x1, x2, x3) → ∀ (ls : Array Slot), lv_has ls 8 [(5, .int (nI b)), (4, .int (nI a)), (3, .int y3), (2, .int y2), (1, .int y1), (0, .ref h)] → W p l e (headSpec wsX0_bestPair ({ frames := 4, cells := 0, slots := 0, locals := 80 } : Room)).room s m ([.ref h] : List Value).toArray below meth c s.heap [] 0 0 (MQ below (vp_Si (fun r => r = s_next n F)) ([.ref h] : List Value).toArray s 0 0 (fun _ => False)) (F0 m 24 ls []) := by
          intro kb
          induction kb with
          | zero =>
            intro b y1 y2 y3 e_b hab hy ls hl
            refine lv_iload hx hb dX0_bestPair_24 (lv_at hl 0 rfl) ?_
            refine lv_aload_n hx hb dX0_bestPair_26 rfl (lv_at hl 5 rfl) ?_
            refine va_get (D := (dC, dI)) (ci := 0) (v := .int (nI n)) (C := RX0) (T := TX0) (N := 8) hx hb hts hinX0 hown hK hP 0 rfl rfl 7 (by decide) (hts (.fieldLink RX0 33 "WrestleBook$Roster" "size" "I") (by decide +kernel)) (fun _ h9 => h9) rfl dX0_bestPair_27 ?_
            refine rv_icmp_ge (tgt := 124) hx hb (a := b) (b := n) (by omega) (by omega) dX0_bestPair_30 (by decide) (fun c_30 => ?_) (fun c_30 => ?_)
            · refine lv_iinc (v := nI (a + 1)) (lv' := [(4, .int (nI (a + 1))), (5, .int (nI b)), (3, .int y3), (2, .int y2), (1, .int y1), (0, .ref h)]) hx hb dX0_bestPair_124 hl (k := 1) rfl (nI_add a 1) (by decide) rfl (fun ls hl => ?_)
              refine lv_goto (tgt := 9) hx hb dX0_bestPair_127 (by decide) ?_
              exact ih_9 (a + 1) y1 y2 y3 (by omega) (by rw [hy, show b = n by omega, hxx]; rfl) ls (lv_sub hl [0, 2, 3, 4, 5] rfl)
            · exact absurd c_30 (by omega)
          | succ kb ih_24 =>
            intro b y1 y2 y3 e_b hab hy ls hl
            refine lv_iload hx hb dX0_bestPair_24 (lv_at hl 0 rfl) ?_
            refine lv_aload_n hx hb dX0_bestPair_26 rfl (lv_at hl 5 rfl) ?_
            refine va_get (D := (dC, dI)) (ci := 0) (v := .int (nI n)) (C := RX0) (T := TX0) (N := 8) hx hb hts hinX0 hown hK hP 0 rfl rfl 7 (by decide) (hts (.fieldLink RX0 33 "WrestleBook$Roster" "size" "I") (by decide +kernel)) (fun _ h9 => h9) rfl dX0_bestPair_27 ?_
            refine rv_icmp_ge (tgt := 124) hx hb (a := b) (b := n) (by omega) (by omega) dX0_bestPair_30 (by decide) (fun c_30 => ?_) (fun c_30 => ?_)
            · exact absurd c_30 (by omega)
            · refine lv_aload_n hx hb dX0_bestPair_33 rfl (lv_at hl 5 rfl) ?_
              refine va_get (D := (dC, dI)) (ci := 0) (v := .ref (ad 0)) (C := RX0) (T := TX0) (N := 8) hx hb hts hinX0 hown hK hP 0 rfl rfl 0 (by decide) (hts (.fieldLink RX0 9 "WrestleBook$Roster" "leagues" "[I") (by decide +kernel)) (fun _ h9 => h9) rfl dX0_bestPair_34 ?_
              refine lv_iload hx hb dX0_bestPair_37 (lv_at hl 1 rfl) ?_
              refine rv_iald (k := a) hx hb hK hP 1 0 rfl rfl (show a < 12 by omega) (by decide) dX0_bestPair_39 ?_
              refine lv_aload_n hx hb dX0_bestPair_40 rfl (lv_at hl 5 rfl) ?_
              refine va_get (D := (dC, dI)) (ci := 0) (v := .ref (ad 0)) (C := RX0) (T := TX0) (N := 8) hx hb hts hinX0 hown hK hP 0 rfl rfl 0 (by decide) (hts (.fieldLink RX0 9 "WrestleBook$Roster" "leagues" "[I") (by decide +kernel)) (fun _ h9 => h9) rfl dX0_bestPair_41 ?_
              refine lv_iload hx hb dX0_bestPair_44 (lv_at hl 0 rfl) ?_
              refine rv_iald (k := b) hx hb hK hP 1 0 rfl rfl (show b < 12 by omega) (by decide) dX0_bestPair_46 ?_
              refine lv_icmp_eq (tgt := 53) hx hb dX0_bestPair_47 (by decide) (fun c_47 => ?_) (fun c_47 => ?_)
              · refine lv_aload_n hx hb dX0_bestPair_53 rfl (lv_at hl 5 rfl) ?_
                refine va_get (D := (dC, dI)) (ci := 0) (v := .ref (ad 4)) (C := RX0) (T := TX0) (N := 8) hx hb hts hinX0 hown hK hP 0 rfl rfl 4 (by decide) (hts (.fieldLink RX0 24 "WrestleBook$Roster" "seasonBouts" "[I") (by decide +kernel)) (fun _ h9 => h9) rfl dX0_bestPair_54 ?_
                refine lv_iload hx hb dX0_bestPair_57 (lv_at hl 1 rfl) ?_
                refine rv_iald (k := a) hx hb hK hP 5 0 rfl rfl (show a < 12 by omega) (by decide) dX0_bestPair_59 ?_
                refine lv_aload_n hx hb dX0_bestPair_60 rfl (lv_at hl 5 rfl) ?_
                refine va_get (D := (dC, dI)) (ci := 0) (v := .ref (ad 4)) (C := RX0) (T := TX0) (N := 8) hx hb hts hinX0 hown hK hP 0 rfl rfl 4 (by decide) (hts (.fieldLink RX0 24 "WrestleBook$Roster" "seasonBouts" "[I") (by decide +kernel)) (fun _ h9 => h9) rfl dX0_bestPair_61 ?_
                refine lv_iload hx hb dX0_bestPair_64 (lv_at hl 0 rfl) ?_
                refine rv_iald (k := b) hx hb hK hP 5 0 rfl rfl (show b < 12 by omega) (by decide) dX0_bestPair_66 ?_
                refine lv_iadd hx hb dX0_bestPair_67 ?_
                refine lv_istore (lv' := [(6, .int ((F 4 a) + (F 4 b))), (5, .int (nI b)), (4, .int (nI a)), (3, .int y3), (2, .int y2), (1, .int y1), (0, .ref h)]) hx hb dX0_bestPair_68 hl (by decide) rfl (fun ls hl => ?_)
                refine lv_aload_n hx hb dX0_bestPair_70 rfl (lv_at hl 6 rfl) ?_
                refine lv_iload hx hb dX0_bestPair_71 (lv_at hl 2 rfl) ?_
                refine lv_iload hx hb dX0_bestPair_73 (lv_at hl 1 rfl) ?_
                refine vp_callSi (W.runV (As := [.int (nI a), .int (nI b)]) (rest := []) ⟨hx, hb, hml, hown, hts⟩ (c_X0_unevenness l dC dI cI h ad n F a (show a < n by omega) b (show b < n by omega) hn hR) (cwV 2 hts gX0_bestPair_X0_unevenness rfl rfl rfl (by decide +kernel) ⟨Nat.le_of_ble_eq_true rfl, Nat.le_of_ble_eq_true rfl⟩) ⟨PR.blind, va_recv hK hP (ci := 0) (q0 := 0) rfl rfl, fun U hU hW => ⟨rfl, PR.go hP hK hE hS hU hW⟩⟩ rfl rfl hl.1 rfl (lv_room (Nat.le_of_ble_eq_true rfl)) dX0_bestPair_75 ⟨Nat.le_of_ble_eq_true rfl, Nat.le_of_ble_eq_true rfl⟩) (fun r hr0 => ?_)
                subst hr0
                refine lv_istore (lv' := [(7, .int (s_off F a b)), (6, .int ((F 4 a) + (F 4 b))), (5, .int (nI b)), (4, .int (nI a)), (3, .int y3), (2, .int y2), (1, .int y1), (0, .ref h)]) hx hb dX0_bestPair_78 hl (by decide) rfl (fun ls hl => ?_)
                refine lv_iload_n hx hb dX0_bestPair_80 rfl (lv_at hl 6 rfl) ?_
                refine lv_iconst (v := (-1)) hx hb dX0_bestPair_81 (by decide) ?_
                refine lv_icmp_eq (tgt := 103) hx hb dX0_bestPair_82 (by decide) (fun c_82 => ?_) (fun c_82 => ?_)
                · refine lv_iload hx hb dX0_bestPair_103 (lv_at hl 3 rfl) ?_
                  refine lv_bipush (v := 12) hx hb dX0_bestPair_105 (by decide) ?_
                  refine lv_imul hx hb dX0_bestPair_107 ?_
                  refine lv_iload hx hb dX0_bestPair_108 (lv_at hl 2 rfl) ?_
                  refine lv_iadd hx hb dX0_bestPair_110 ?_
                  refine lv_istore_n (lv' := [(1, .int (((nI a) * 12) + (nI b))), (7, .int (s_off F a b)), (6, .int ((F 4 a) + (F 4 b))), (5, .int (nI b)), (4, .int (nI a)), (3, .int y3), (2, .int y2), (0, .ref h)]) hx hb dX0_bestPair_111 rfl hl (by decide) rfl (fun ls hl => ?_)
                  refine lv_iload hx hb dX0_bestPair_112 (lv_at hl 2 rfl) ?_
                  refine lv_istore_n (lv' := [(2, .int ((F 4 a) + (F 4 b))), (1, .int (((nI a) * 12) + (nI b))), (7, .int (s_off F a b)), (6, .int ((F 4 a) + (F 4 b))), (5, .int (nI b)), (4, .int (nI a)), (3, .int y3), (0, .ref h)]) hx hb dX0_bestPair_114 rfl hl (by decide) rfl (fun ls hl => ?_)
                  refine lv_iload hx hb dX0_bestPair_115 (lv_at hl 2 rfl) ?_
                  refine lv_istore_n (lv' := [(3, .int (s_off F a b)), (2, .int ((F 4 a) + (F 4 b))), (1, .int (((nI a) * 12) + (nI b))), (7, .int (s_off F a b)), (6, .int ((F 4 a) + (F 4 b))), (5, .int (nI b)), (4, .int (nI a)), (0, .ref h)]) hx hb dX0_bestPair_117 rfl hl (by decide) rfl (fun ls hl => ?_)
                  refine lv_iinc (v := nI (b + 1)) (lv' := [(5, .int (nI (b + 1))), (3, .int (s_off F a b)), (2, .int ((F 4 a) + (F 4 b))), (1, .int (((nI a) * 12) + (nI b))), (7, .int (s_off F a b)), (6, .int ((F 4 a) + (F 4 b))), (4, .int (nI a)), (0, .ref h)]) hx hb dX0_bestPair_118 hl (k := 5) rfl (nI_add b 1) (by decide) rfl (fun ls hl => ?_)
                  refine lv_goto (tgt := 24) hx hb dX0_bestPair_121 (by decide) ?_
                  exact ih_24 (b + 1) (((nI a) * 12) + (nI b)) ((F 4 a) + (F 4 b)) (s_off F a b) (by omega) (by omega) (by rw [pairI_s hab, ← hy]; simp [pairB, c_15, (show a < n from by omega), c_30, (show b < n from by omega), c_47, c_82]) ls (lv_sub hl [0, 6, 1, 2, 3, 7] rfl)
                · refine lv_iload hx hb dX0_bestPair_85 (lv_at hl 1 rfl) ?_
                  refine lv_iload_n hx hb dX0_bestPair_87 rfl (lv_at hl 5 rfl) ?_
                  refine lv_icmp_lt (tgt := 103) hx hb dX0_bestPair_88 (by decide) (fun c_88 => ?_) (fun c_88 => ?_)
                  · refine lv_iload hx hb dX0_bestPair_103 (lv_at hl 3 rfl) ?_
                    refine lv_bipush (v := 12) hx hb dX0_bestPair_105 (by decide) ?_
                    refine lv_imul hx hb dX0_bestPair_107 ?_
                    refine lv_iload hx hb dX0_bestPair_108 (lv_at hl 2 rfl) ?_
                    refine lv_iadd hx hb dX0_bestPair_110 ?_
                    refine lv_istore_n (lv' := [(1, .int (((nI a) * 12) + (nI b))), (7, .int (s_off F a b)), (6, .int ((F 4 a) + (F 4 b))), (5, .int (nI b)), (4, .int (nI a)), (3, .int y3), (2, .int y2), (0, .ref h)]) hx hb dX0_bestPair_111 rfl hl (by decide) rfl (fun ls hl => ?_)
                    refine lv_iload hx hb dX0_bestPair_112 (lv_at hl 2 rfl) ?_
                    refine lv_istore_n (lv' := [(2, .int ((F 4 a) + (F 4 b))), (1, .int (((nI a) * 12) + (nI b))), (7, .int (s_off F a b)), (6, .int ((F 4 a) + (F 4 b))), (5, .int (nI b)), (4, .int (nI a)), (3, .int y3), (0, .ref h)]) hx hb dX0_bestPair_114 rfl hl (by decide) rfl (fun ls hl => ?_)
                    refine lv_iload hx hb dX0_bestPair_115 (lv_at hl 2 rfl) ?_
                    refine lv_istore_n (lv' := [(3, .int (s_off F a b)), (2, .int ((F 4 a) + (F 4 b))), (1, .int (((nI a) * 12) + (nI b))), (7, .int (s_off F a b)), (6, .int ((F 4 a) + (F 4 b))), (5, .int (nI b)), (4, .int (nI a)), (0, .ref h)]) hx hb dX0_bestPair_117 rfl hl (by decide) rfl (fun ls hl => ?_)
                    refine lv_iinc (v := nI (b + 1)) (lv' := [(5, .int (nI (b + 1))), (3, .int (s_off F a b)), (2, .int ((F 4 a) + (F 4 b))), (1, .int (((nI a) * 12) + (nI b))), (7, .int (s_off F a b)), (6, .int ((F 4 a) + (F 4 b))), (4, .int (nI a)), (0, .ref h)]) hx hb dX0_bestPair_118 hl (k := 5) rfl (nI_add b 1) (by decide) rfl (fun ls hl => ?_)
                    refine lv_goto (tgt := 24) hx hb dX0_bestPair_121 (by decide) ?_
                    exact ih_24 (b + 1) (((nI a) * 12) + (nI b)) ((F 4 a) + (F 4 b)) (s_off F a b) (by omega) (by omega) (by rw [pairI_s hab, ← hy]; simp [pairB, c_15, (show a < n from by omega), c_30, (show b < n from by omega), c_47, c_82, c_88]) ls (lv_sub hl [0, 6, 1, 2, 3, 7] rfl)
                  · refine lv_iload hx hb dX0_bestPair_91 (lv_at hl 1 rfl) ?_
                    refine lv_iload_n hx hb dX0_bestPair_93 rfl (lv_at hl 5 rfl) ?_
                    refine lv_icmp_ne (tgt := 118) hx hb dX0_bestPair_94 (by decide) (fun c_94 => ?_) (fun c_94 => ?_)
                    · refine lv_iinc (v := nI (b + 1)) (lv' := [(5, .int (nI (b + 1))), (7, .int (s_off F a b)), (6, .int ((F 4 a) + (F 4 b))), (4, .int (nI a)), (3, .int y3), (2, .int y2), (1, .int y1), (0, .ref h)]) hx hb dX0_bestPair_118 hl (k := 2) rfl (nI_add b 1) (by decide) rfl (fun ls hl => ?_)
                      refine lv_goto (tgt := 24) hx hb dX0_bestPair_121 (by decide) ?_
                      exact ih_24 (b + 1) y1 y2 y3 (by omega) (by omega) (by rw [pairI_s hab, ← hy]; simp [pairB, c_15, (show a < n from by omega), c_30, (show b < n from by omega), c_47, c_82, c_88, c_94]) ls (lv_sub hl [0, 3, 4, 5, 6, 7] rfl)
                    · refine lv_iload hx hb dX0_bestPair_97 (lv_at hl 0 rfl) ?_
                      refine lv_iload_n hx hb dX0_bestPair_99 rfl (lv_at hl 4 rfl) ?_
                      refine lv_icmp_ge (tgt := 118) hx hb dX0_bestPair_100 (by decide) (fun c_100 => ?_) (fun c_100 => ?_)
                      · refine lv_iinc (v := nI (b + 1)) (lv' := [(5, .int (nI (b + 1))), (7, .int (s_off F a b)), (6, .int ((F 4 a) + (F 4 b))), (4, .int (nI a)), (3, .int y3), (2, .int y2), (1, .int y1), (0, .ref h)]) hx hb dX0_bestPair_118 hl (k := 2) rfl (nI_add b 1) (by decide) rfl (fun ls hl => ?_)
                        refine lv_goto (tgt := 24) hx hb dX0_bestPair_121 (by decide) ?_
                        exact ih_24 (b + 1) y1 y2 y3 (by omega) (by omega) (by rw [pairI_s hab, ← hy]; simp [pairB, c_15, (show a < n from by omega), c_30, (show b < n from by omega), c_47, c_82, c_88, c_94, c_100]) ls (lv_sub hl [0, 3, 4, 5, 6, 7] rfl)
                      · refine lv_iload hx hb dX0_bestPair_103 (lv_at hl 3 rfl) ?_
                        refine lv_bipush (v := 12) hx hb dX0_bestPair_105 (by decide) ?_
                        refine lv_imul hx hb dX0_bestPair_107 ?_
                        refine lv_iload hx hb dX0_bestPair_108 (lv_at hl 2 rfl) ?_
                        refine lv_iadd hx hb dX0_bestPair_110 ?_
                        refine lv_istore_n (lv' := [(1, .int (((nI a) * 12) + (nI b))), (7, .int (s_off F a b)), (6, .int ((F 4 a) + (F 4 b))), (5, .int (nI b)), (4, .int (nI a)), (3, .int y3), (2, .int y2), (0, .ref h)]) hx hb dX0_bestPair_111 rfl hl (by decide) rfl (fun ls hl => ?_)
                        refine lv_iload hx hb dX0_bestPair_112 (lv_at hl 2 rfl) ?_
                        refine lv_istore_n (lv' := [(2, .int ((F 4 a) + (F 4 b))), (1, .int (((nI a) * 12) + (nI b))), (7, .int (s_off F a b)), (6, .int ((F 4 a) + (F 4 b))), (5, .int (nI b)), (4, .int (nI a)), (3, .int y3), (0, .ref h)]) hx hb dX0_bestPair_114 rfl hl (by decide) rfl (fun ls hl => ?_)
                        refine lv_iload hx hb dX0_bestPair_115 (lv_at hl 2 rfl) ?_
                        refine lv_istore_n (lv' := [(3, .int (s_off F a b)), (2, .int ((F 4 a) + (F 4 b))), (1, .int (((nI a) * 12) + (nI b))), (7, .int (s_off F a b)), (6, .int ((F 4 a) + (F 4 b))), (5, .int (nI b)), (4, .int (nI a)), (0, .ref h)]) hx hb dX0_bestPair_117 rfl hl (by decide) rfl (fun ls hl => ?_)
                        refine lv_iinc (v := nI (b + 1)) (lv' := [(5, .int (nI (b + 1))), (3, .int (s_off F a b)), (2, .int ((F 4 a) + (F 4 b))), (1, .int (((nI a) * 12) + (nI b))), (7, .int (s_off F a b)), (6, .int ((F 4 a) + (F 4 b))), (4, .int (nI a)), (0, .ref h)]) hx hb dX0_bestPair_118 hl (k := 5) rfl (nI_add b 1) (by decide) rfl (fun ls hl => ?_)
                        refine lv_goto (tgt := 24) hx hb dX0_bestPair_121 (by decide) ?_
                        exact ih_24 (b + 1) (((nI a) * 12) + (nI b)) ((F 4 a) + (F 4 b)) (s_off F a b) (by omega) (by omega) (by rw [pairI_s hab, ← hy]; simp [pairB, c_15, (show a < n from by omega), c_30, (show b < n from by omega), c_47, c_82, c_88, c_94, c_100]) ls (lv_sub hl [0, 6, 1, 2, 3, 7] rfl)
              · refine lv_goto (tgt := 118) hx hb dX0_bestPair_50 (by decide) ?_
                refine lv_iinc (v := nI (b + 1)) (lv' := [(5, .int (nI (b + 1))), (4, .int (nI a)), (3, .int y3), (2, .int y2), (1, .int y1), (0, .ref h)]) hx hb dX0_bestPair_118 hl (k := 0) rfl (nI_add b 1) (by decide) rfl (fun ls hl => ?_)
                refine lv_goto (tgt := 24) hx hb dX0_bestPair_121 (by decide) ?_
                exact ih_24 (b + 1) y1 y2 y3 (by omega) (by omega) (by rw [pairI_s hab, ← hy]; simp [pairB, c_15, (show a < n from by omega), c_30, (show b < n from by omega), c_47]) ls (lv_sub hl [0, 1, 2, 3, 4, 5] rfl)
        exact L_24 (n - (a + 1)) (a + 1) x1 x2 x3 (by omega) (Nat.lt_succ_self a) ((pairI_skip (a + 1) (Nat.le_refl _)).symm) ls (lv_sub hl [0, 1, 2, 3, 4, 5] rfl)
  exact L_9 n 0 (-1) 0 0 (by omega) rfl ls (lv_sub hl [0, 1, 2, 3, 4] rfl)
