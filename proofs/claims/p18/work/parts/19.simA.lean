/-! The Sim: small methods -/
theorem i32_m1 (x : Int32) : x + (-1) = x - 1 := by rw [Int32.sub_eq_add_neg]
theorem dn_0 : nI 0 - 1 = -1 := by decide
theorem pu_same (F : Nat → Nat → Int32) (k i : Nat) : pu F k i (F k i) = F := by
  funext a j
  rw [pu_app]
  by_cases h : a = k ∧ j = i
  · rw [if_pos h, h.1, h.2]
  · rw [if_neg h]
def T9 : Nat → Int32 := upd (upd (upd (upd (upd (upd (upd (upd (upd (fun _ => 0) 0 500) 1 640) 2 760) 3 849) 4 909) 5 947) 6 969) 7 983) 8 990
theorem T9_tb {k : Nat} (h : k < 9) : T9 k = tb k := by
  rcases (show k = 0 ∨ k = 1 ∨ k = 2 ∨ k = 3 ∨ k = 4 ∨ k = 5 ∨ k = 6 ∨ k = 7 ∨ k = 8 by omega) with rfl | rfl | rfl | rfl | rfl | rfl | rfl | rfl | rfl <;> rfl
theorem remL {d : Nat} (h : d < 2 ^ 31) : nI d - nI (d / 100) * 100 = nI (d % 100) := by
  have h2 := pk_rem (d := 100) h (by decide) (by decide)
  rw [pk_div h (by decide) (by decide)] at h2
  exact h2
theorem exp_lt {F : Nat → Nat → Int32} {a b d : Nat} (hle : F 1 b ≤ F 1 a) (hd : dN (F 1 a) (F 1 b) = d) (h : d < 800) : tb (d / 100) + (tb (d / 100 + 1) - tb (d / 100)) * nI (d % 100) / 100 = s_exp F a b := by
  unfold s_exp s_eoh mD exN
  rw [if_pos hle, hd, if_neg (show ¬ 800 < d by omega), if_neg (show ¬ d = 800 by omega)]
theorem exp_ge {F : Nat → Nat → Int32} {a b d : Nat} (hle : F 1 b ≤ F 1 a) (hd : dN (F 1 a) (F 1 b) = d) (h : ¬ d < 800) : (990 : Int32) = s_exp F a b := by
  unfold s_exp s_eoh
  rw [if_pos hle, hd, show mD d = 800 from by unfold mD; split <;> omega]
  rfl
theorem exp_neg {F : Nat → Nat → Int32} {a b : Nat} (hle : ¬ F 1 b ≤ F 1 a) : 1000 - s_exp F b a = s_exp F a b := by
  unfold s_exp
  rw [if_neg hle, if_pos (i32_le_of_not hle)]
theorem exp_sg {n : Nat} {F : Nat → Nat → Int32} (hR : okR n F) {a b : Nat} (ha : a < n) (hb : b < n) (h : 0 ≤ F 1 a - F 1 b) : F 1 b ≤ F 1 a := by
  obtain ⟨x, x1, x2, ex⟩ := hR a ha
  obtain ⟨y, y1, y2, ey⟩ := hR b hb
  rw [ex, ey] at h ⊢
  have h2 := Int32.le_iff_toInt_le.mp h
  rw [pk_sub_toInt (by omega) (by omega)] at h2
  have z : (0 : Int32).toInt = 0 := rfl
  rw [z] at h2
  exact nI_le (by omega) (by omega)
theorem cl1 {y : Int32} (h1 : 100 ≤ y) (h2 : y ≤ 3000) : y = maxI 100 (minI 3000 y) := by
  unfold maxI minI
  by_cases h3 : y < 3000
  · rw [if_pos h3]
    by_cases h4 : 100 < y
    · rw [if_pos h4]
    · rw [if_neg h4]; exact Int32.le_antisymm (Int32.not_lt.mp h4) h1
  · rw [if_neg h3, if_pos (by decide)]; exact Int32.le_antisymm h2 (Int32.not_lt.mp h3)
theorem cl2 {y : Int32} (h2 : ¬ y ≤ 3000) : (3000 : Int32) = maxI 100 (minI 3000 y) := by
  unfold maxI minI
  rw [if_neg (fun q => h2 (Int32.le_of_lt q)), if_pos (by decide)]
theorem cl3 {y : Int32} (h1 : ¬ 100 ≤ y) : (100 : Int32) = maxI 100 (minI 3000 y) := by
  have h3 : y < 100 := Int32.not_le.mp h1
  unfold maxI minI
  rw [if_pos (Int32.lt_of_lt_of_le h3 (by decide)), if_neg (fun q => Int32.lt_irrefl (Int32.lt_trans q h3))]
theorem raise_no {F : Nat → Nat → Int32} {w : Nat} {x : Int32} (h : x ≤ F 6 w) : s_set F w x = pu F 1 w x := by
  unfold s_set maxI
  rw [if_neg (Int32.not_lt.mpr h)]
  have e := pu_same (pu F 1 w x) 6 w
  rw [pu_app, if_neg (fun q => by omega)] at e
  exact e
theorem raise_yes {F : Nat → Nat → Int32} {w : Nat} {x : Int32} (h : ¬ x ≤ F 6 w) : s_set F w x = pu (pu F 1 w x) 6 w x := by
  unfold s_set maxI
  rw [if_pos (Int32.not_le.mp h)]
theorem exp_N {n : Nat} {F : Nat → Nat → Int32} (h : okR n F) {a b : Nat} (ha : a < n) (hb : b < n) : ∃ x : Nat, x ≤ 1000 ∧ s_exp F a b = nI x := by
  obtain ⟨x, h1, h2, e⟩ := exNN (mD_le (dA F a b))
  by_cases hc : F 1 b ≤ F 1 a
  · exact ⟨x, by omega, by rw [s_exp_ge hc, e]⟩
  · exact ⟨1000 - x, by omega, by rw [s_exp_lt hc, e, show (1000 : Int32) = nI 1000 from rfl, pk_sub (by omega)]⟩
theorem off_gt {n : Nat} {F : Nat → Nat → Int32} (h : okR n F) {a b : Nat} (ha : a < n) (hb : b < n) (c : ¬ s_exp F a b ≤ 500) : s_exp F a b - 500 = s_off F a b := by
  obtain ⟨x, hx, e⟩ := exp_N h ha hb
  unfold s_off absI
  rw [e] at c ⊢
  have h2 : ¬ x ≤ 500 := fun q => c (nI_le (b := 500) q (by decide))
  rw [show (500 : Int32) = nI 500 from rfl, pk_sub (by omega), if_pos (nI_pos' (by omega))]
theorem off_le {n : Nat} {F : Nat → Nat → Int32} (h : okR n F) {a b : Nat} (ha : a < n) (hb : b < n) (c : s_exp F a b ≤ 500) : 500 - s_exp F a b = s_off F a b := by
  obtain ⟨x, hx, e⟩ := exp_N h ha hb
  unfold s_off absI
  rw [e] at c ⊢
  have h2 : x ≤ 500 := (nI_leI (b := 500) (by omega) (by decide)).mp c
  by_cases h3 : x = 500
  · subst h3; rfl
  · have h4 : nI x - nI 500 < 0 := pk_sneg (by decide) (by omega)
    rw [show (500 : Int32) = nI 500 from rfl, if_neg (Int32.not_le.mpr h4), Int32.zero_sub, Int32.neg_sub]
set_option maxHeartbeats 4000000 in
set_option maxRecDepth 100000 in
theorem c_X2_expectedP (l : Launch) (dC : Nat → ClassId) (dI : Nat → Nat → Nat) (cI : ClassId) (h al : Nat) (rw : Nat → Nat) (cA : ClassId) (n : Nat) (F : Nat → Nat → Int32) (ct : Nat → Int32) (sz : Nat) (a : Nat) (i_a : a < n) (b : Nat) (i_b : b < n) (hn : n ≤ 12) (hR : okR n F) (hle : F 1 b ≤ F 1 a) : Met l yX2_expected wsX2_expected ({ frames := 0, cells := 1, slots := 9, locals := 0 } : Room) (va_Pc [.ref h, .int (nI a), .int (nI b)] (fun U => PT dC dI cI cA (wT h al rw cA cI n F ct) sz U)) (va_Qi (fun r (_ : Unit) => r = s_exp F a b) (fun _ _ => True) (fun q : Nat => sz ≤ q)) 1 9 (fun q : Nat => sz ≤ q) := by
  refine Met.ofW (cc := cX2_expected) (maxL := 7) (ret := (some .int)) (by decide) rfl ?_
  intro p e s m args below meth c s₁ B hml hv
  obtain ⟨rfl, hsz, hP0, hK, hE⟩ := hv
  have hx := B.exec
  have hb := B.bytes
  have hr := B.returns
  have hts := atoms_spec (ws := wsX2_expected) B.pre
  have hown : s.vm.findClass RX2 = some m.cls := findClass_of_methodNamed B.named
  have hlocks := B.notSynchronized
  subst hsz
  have hAn : ∀ q : Nat, q < s.heap.size → ¬ (fun q : Nat => s.heap.size ≤ q) q := fun q h9 => Nat.not_le.mpr h9
  have hA : ∀ q : Nat, s.heap.size ≤ q → (fun q : Nat => s.heap.size ≤ q) q := fun q h9 => h9
  generalize (fun q : Nat => s.heap.size ≤ q) = A at hA hAn hE ⊢
  have hP := hP0
  have hS : va_S A s.heap s.heap [] := va_S.rf
  have hinX2 : ∀ w ∈ wsX20, w ∈ wsX2_expected := by decide +kernel
  have hl := lv_entry ([.ref h, .int (nI a), .int (nI b)]) (n := 7) (Nat.le_of_ble_eq_true rfl)
  rw [lg_entry_eq]
  generalize (lg_sl ([.ref h, .int (nI a), .int (nI b)]) ++ List.replicate (7 - (lg_sl ([.ref h, .int (nI a), .int (nI b)])).length) Slot.unset).toArray = ls at hl ⊢
  have hl : lv_has ls 7 [(0, .ref h), (1, .int (nI a)), (2, .int (nI b))] := hl
  obtain ⟨H, hHe⟩ : ∃ H, H = s.heap := ⟨_, rfl⟩
  have hP : va_P (dC, dI) vwCl (wT h al rw cA cI n F ct) H := by rw [hHe]; exact hP
  have hS : va_S A s.heap H [] := by rw [hHe]; exact hS
  suffices h0 : W p l e (headSpec wsX2_expected ({ frames := 0, cells := 1, slots := 9, locals := 0 } : Room)).room s m ([.ref h, .int (nI a), .int (nI b)] : List Value).toArray below meth c H [] 0 0 (MQ below (va_Qi (fun r (_ : Unit) => r = s_exp F a b) (fun _ _ => True) A) ([.ref h, .int (nI a), .int (nI b)] : List Value).toArray s 1 9 A) (F0 m 0 ls []) from by have h9 := h0; rw [hHe] at h9; exact h9
  obtain ⟨hd, hde⟩ := (hR.le i_a i_b hle)
  refine lv_aload_n hx hb dX2_expected_0 rfl (lv_at hl 0 rfl) ?_
  refine va_get (D := (dC, dI)) (ci := 2) (v := .ref al) (C := RX2) (T := TX2) (N := 4) hx hb hts hinX2 hown hK hP 0 rfl rfl 3 (by decide) (hts (.fieldLink RX2 9 "WrestleBookLaw$Sim" "all" "[[I") (by decide +kernel)) (fun _ h9 => h9) rfl dX2_expected_1 ?_
  refine lv_iload_n hx hb dX2_expected_4 rfl (lv_at hl 1 rfl) ?_
  refine rv_aald (k := a) hx hb hK hP 1 1 rfl rfl (show a < n by omega) (by omega) dX2_expected_5 ?_
  refine lv_iconst (v := 0) hx hb dX2_expected_6 (by decide) ?_
  refine rv_iald (k := 0) hx hb hK hP (2 + a) 0 (rl_get rfl (show a < n by omega)) rfl (by decide) (by decide) dX2_expected_7 ?_
  refine rv_top (y := F 1 a) rfl ?_
  refine lv_aload_n hx hb dX2_expected_8 rfl (lv_at hl 0 rfl) ?_
  refine va_get (D := (dC, dI)) (ci := 2) (v := .ref al) (C := RX2) (T := TX2) (N := 4) hx hb hts hinX2 hown hK hP 0 rfl rfl 3 (by decide) (hts (.fieldLink RX2 9 "WrestleBookLaw$Sim" "all" "[[I") (by decide +kernel)) (fun _ h9 => h9) rfl dX2_expected_9 ?_
  refine lv_iload_n hx hb dX2_expected_12 rfl (lv_at hl 2 rfl) ?_
  refine rv_aald (k := b) hx hb hK hP 1 1 rfl rfl (show b < n by omega) (by omega) dX2_expected_13 ?_
  refine lv_iconst (v := 0) hx hb dX2_expected_14 (by decide) ?_
  refine rv_iald (k := 0) hx hb hK hP (2 + b) 0 (rl_get rfl (show b < n by omega)) rfl (by decide) (by decide) dX2_expected_15 ?_
  refine rv_top (y := F 1 b) rfl ?_
  refine lv_isub hx hb dX2_expected_16 ?_
  refine rv_top (y := nI (dN (F 1 a) (F 1 b))) hde ?_
  refine lv_istore_n (lv' := [(3, .int (nI (dN (F 1 a) (F 1 b)))), (0, .ref h), (1, .int (nI a)), (2, .int (nI b))]) hx hb dX2_expected_17 rfl hl (by decide) rfl (fun ls hl => ?_)
  refine lv_iload_n hx hb dX2_expected_18 rfl (lv_at hl 0 rfl) ?_
  refine lv_if_ge (tgt := 33) hx hb dX2_expected_19 (by decide) (fun c_19 => ?_) (fun c_19 => ?_)
  · refine lv_bipush (v := 9) hx hb dX2_expected_33 (by decide) ?_
    refine rv_newa (N' := 9) hx hb (hts (.arrayClass .int) (by decide +kernel)) (hK.sub (tys' := [(cI, .int)]) [0] rfl) vaP_nil D_nil hS hA (by decide) (rfl) (Nat.le_of_ble_eq_true rfl) (by show _ ≤ 1; omega) (by show _ ≤ 9; omega) dX2_expected_35 (fun q35 H hPt hDt hS => ?_)
    have hPt : va_P (dC, dI) vwCl ([(q35, .inl (cI, 9, .inl (fun _ => 0)))]) H := hPt
    have hDt : va_D A ([(q35, .inl (cI, 9, .inl (fun _ => 0)))]) := hDt
    have hP := keepS hP0 hAn hS
    refine lv_dup hx hb dX2_expected_37 rfl ?_
    refine lv_iconst (v := 0) hx hb dX2_expected_38 (by decide) ?_
    refine lv_sipush (v := 500) hx hb dX2_expected_39 (by decide) ?_
    refine rv_iast (k := 0) hx hb hK hPt hDt hS 0 0 rfl rfl (show 0 < 9 by omega) (by omega) dX2_expected_42 (fun H locs hPt hDt hS => ?_)
    have hPt : va_P (dC, dI) vwCl ([(q35, .inl (cI, 9, .inl (upd (fun _ => 0) 0 500)))]) H := hPt
    have hDt : va_D A ([(q35, .inl (cI, 9, .inl (upd (fun _ => 0) 0 500)))]) := hDt
    have hP := keepS hP0 hAn hS
    refine lv_dup hx hb dX2_expected_43 rfl ?_
    refine lv_iconst (v := 1) hx hb dX2_expected_44 (by decide) ?_
    refine lv_sipush (v := 640) hx hb dX2_expected_45 (by decide) ?_
    refine rv_iast (k := 1) hx hb hK hPt hDt hS 0 0 rfl rfl (show 1 < 9 by omega) (by omega) dX2_expected_48 (fun H locs hPt hDt hS => ?_)
    have hPt : va_P (dC, dI) vwCl ([(q35, .inl (cI, 9, .inl (upd (upd (fun _ => 0) 0 500) 1 640)))]) H := hPt
    have hDt : va_D A ([(q35, .inl (cI, 9, .inl (upd (upd (fun _ => 0) 0 500) 1 640)))]) := hDt
    have hP := keepS hP0 hAn hS
    refine lv_dup hx hb dX2_expected_49 rfl ?_
    refine lv_iconst (v := 2) hx hb dX2_expected_50 (by decide) ?_
    refine lv_sipush (v := 760) hx hb dX2_expected_51 (by decide) ?_
    refine rv_iast (k := 2) hx hb hK hPt hDt hS 0 0 rfl rfl (show 2 < 9 by omega) (by omega) dX2_expected_54 (fun H locs hPt hDt hS => ?_)
    have hPt : va_P (dC, dI) vwCl ([(q35, .inl (cI, 9, .inl (upd (upd (upd (fun _ => 0) 0 500) 1 640) 2 760)))]) H := hPt
    have hDt : va_D A ([(q35, .inl (cI, 9, .inl (upd (upd (upd (fun _ => 0) 0 500) 1 640) 2 760)))]) := hDt
    have hP := keepS hP0 hAn hS
    refine lv_dup hx hb dX2_expected_55 rfl ?_
    refine lv_iconst (v := 3) hx hb dX2_expected_56 (by decide) ?_
    refine lv_sipush (v := 849) hx hb dX2_expected_57 (by decide) ?_
    refine rv_iast (k := 3) hx hb hK hPt hDt hS 0 0 rfl rfl (show 3 < 9 by omega) (by omega) dX2_expected_60 (fun H locs hPt hDt hS => ?_)
    have hPt : va_P (dC, dI) vwCl ([(q35, .inl (cI, 9, .inl (upd (upd (upd (upd (fun _ => 0) 0 500) 1 640) 2 760) 3 849)))]) H := hPt
    have hDt : va_D A ([(q35, .inl (cI, 9, .inl (upd (upd (upd (upd (fun _ => 0) 0 500) 1 640) 2 760) 3 849)))]) := hDt
    have hP := keepS hP0 hAn hS
    refine lv_dup hx hb dX2_expected_61 rfl ?_
    refine lv_iconst (v := 4) hx hb dX2_expected_62 (by decide) ?_
    refine lv_sipush (v := 909) hx hb dX2_expected_63 (by decide) ?_
    refine rv_iast (k := 4) hx hb hK hPt hDt hS 0 0 rfl rfl (show 4 < 9 by omega) (by omega) dX2_expected_66 (fun H locs hPt hDt hS => ?_)
    have hPt : va_P (dC, dI) vwCl ([(q35, .inl (cI, 9, .inl (upd (upd (upd (upd (upd (fun _ => 0) 0 500) 1 640) 2 760) 3 849) 4 909)))]) H := hPt
    have hDt : va_D A ([(q35, .inl (cI, 9, .inl (upd (upd (upd (upd (upd (fun _ => 0) 0 500) 1 640) 2 760) 3 849) 4 909)))]) := hDt
    have hP := keepS hP0 hAn hS
    refine lv_dup hx hb dX2_expected_67 rfl ?_
    refine lv_iconst (v := 5) hx hb dX2_expected_68 (by decide) ?_
    refine lv_sipush (v := 947) hx hb dX2_expected_69 (by decide) ?_
    refine rv_iast (k := 5) hx hb hK hPt hDt hS 0 0 rfl rfl (show 5 < 9 by omega) (by omega) dX2_expected_72 (fun H locs hPt hDt hS => ?_)
    have hPt : va_P (dC, dI) vwCl ([(q35, .inl (cI, 9, .inl (upd (upd (upd (upd (upd (upd (fun _ => 0) 0 500) 1 640) 2 760) 3 849) 4 909) 5 947)))]) H := hPt
    have hDt : va_D A ([(q35, .inl (cI, 9, .inl (upd (upd (upd (upd (upd (upd (fun _ => 0) 0 500) 1 640) 2 760) 3 849) 4 909) 5 947)))]) := hDt
    have hP := keepS hP0 hAn hS
    refine lv_dup hx hb dX2_expected_73 rfl ?_
    refine lv_bipush (v := 6) hx hb dX2_expected_74 (by decide) ?_
    refine lv_sipush (v := 969) hx hb dX2_expected_76 (by decide) ?_
    refine rv_iast (k := 6) hx hb hK hPt hDt hS 0 0 rfl rfl (show 6 < 9 by omega) (by omega) dX2_expected_79 (fun H locs hPt hDt hS => ?_)
    have hPt : va_P (dC, dI) vwCl ([(q35, .inl (cI, 9, .inl (upd (upd (upd (upd (upd (upd (upd (fun _ => 0) 0 500) 1 640) 2 760) 3 849) 4 909) 5 947) 6 969)))]) H := hPt
    have hDt : va_D A ([(q35, .inl (cI, 9, .inl (upd (upd (upd (upd (upd (upd (upd (fun _ => 0) 0 500) 1 640) 2 760) 3 849) 4 909) 5 947) 6 969)))]) := hDt
    have hP := keepS hP0 hAn hS
    refine lv_dup hx hb dX2_expected_80 rfl ?_
    refine lv_bipush (v := 7) hx hb dX2_expected_81 (by decide) ?_
    refine lv_sipush (v := 983) hx hb dX2_expected_83 (by decide) ?_
    refine rv_iast (k := 7) hx hb hK hPt hDt hS 0 0 rfl rfl (show 7 < 9 by omega) (by omega) dX2_expected_86 (fun H locs hPt hDt hS => ?_)
    have hPt : va_P (dC, dI) vwCl ([(q35, .inl (cI, 9, .inl (upd (upd (upd (upd (upd (upd (upd (upd (fun _ => 0) 0 500) 1 640) 2 760) 3 849) 4 909) 5 947) 6 969) 7 983)))]) H := hPt
    have hDt : va_D A ([(q35, .inl (cI, 9, .inl (upd (upd (upd (upd (upd (upd (upd (upd (fun _ => 0) 0 500) 1 640) 2 760) 3 849) 4 909) 5 947) 6 969) 7 983)))]) := hDt
    have hP := keepS hP0 hAn hS
    refine lv_dup hx hb dX2_expected_87 rfl ?_
    refine lv_bipush (v := 8) hx hb dX2_expected_88 (by decide) ?_
    refine lv_sipush (v := 990) hx hb dX2_expected_90 (by decide) ?_
    refine rv_iast (k := 8) hx hb hK hPt hDt hS 0 0 rfl rfl (show 8 < 9 by omega) (by omega) dX2_expected_93 (fun H locs hPt hDt hS => ?_)
    have hPt : va_P (dC, dI) vwCl ([(q35, .inl (cI, 9, .inl (upd (upd (upd (upd (upd (upd (upd (upd (upd (fun _ => 0) 0 500) 1 640) 2 760) 3 849) 4 909) 5 947) 6 969) 7 983) 8 990)))]) H := hPt
    have hDt : va_D A ([(q35, .inl (cI, 9, .inl (upd (upd (upd (upd (upd (upd (upd (upd (upd (fun _ => 0) 0 500) 1 640) 2 760) 3 849) 4 909) 5 947) 6 969) 7 983) 8 990)))]) := hDt
    have hP := keepS hP0 hAn hS
    have hPt : va_P (dC, dI) vwCl [(q35, .inl (cI, 9, .inl T9))] H := hPt
    refine lv_astore (lv' := [(4, .ref q35), (3, .int (nI (dN (F 1 a) (F 1 b)))), (0, .ref h), (1, .int (nI a)), (2, .int (nI b))]) hx hb dX2_expected_94 hl (by decide) rfl (fun ls hl => ?_)
    refine lv_iload_n hx hb dX2_expected_96 rfl (lv_at hl 1 rfl) ?_
    refine lv_sipush (v := 800) hx hb dX2_expected_97 (by decide) ?_
    refine rv_icmp_lt (tgt := 107) hx hb (a := (dN (F 1 a) (F 1 b))) (b := 800) (by omega) (by omega) dX2_expected_100 (by decide) (fun c_100 => ?_) (fun c_100 => ?_)
    · refine lv_aload hx hb dX2_expected_107 (lv_at hl 0 rfl) ?_
      refine lv_iload_n hx hb dX2_expected_109 rfl (lv_at hl 1 rfl) ?_
      refine lv_bipush (v := 100) hx hb dX2_expected_110 (by decide) ?_
      refine lv_idiv hx hb dX2_expected_112 (by decide) ?_
      refine rv_top (y := nI (dN (F 1 a) (F 1 b) / 100)) (pk_div (d := 100) (by omega) (by decide) (by decide)) ?_
      refine rv_iald (k := (dN (F 1 a) (F 1 b) / 100)) hx hb hK hPt 0 0 rfl rfl (show dN (F 1 a) (F 1 b) / 100 < 9 by omega) (by omega) dX2_expected_113 ?_
      refine rv_top (y := tb (dN (F 1 a) (F 1 b) / 100)) (T9_tb (by omega)) ?_
      refine lv_istore (lv' := [(5, .int (tb (dN (F 1 a) (F 1 b) / 100))), (4, .ref q35), (3, .int (nI (dN (F 1 a) (F 1 b)))), (0, .ref h), (1, .int (nI a)), (2, .int (nI b))]) hx hb dX2_expected_114 hl (by decide) rfl (fun ls hl => ?_)
      refine lv_aload hx hb dX2_expected_116 (lv_at hl 1 rfl) ?_
      refine lv_iload_n hx hb dX2_expected_118 rfl (lv_at hl 2 rfl) ?_
      refine lv_bipush (v := 100) hx hb dX2_expected_119 (by decide) ?_
      refine lv_idiv hx hb dX2_expected_121 (by decide) ?_
      refine rv_top (y := nI (dN (F 1 a) (F 1 b) / 100)) (pk_div (d := 100) (by omega) (by decide) (by decide)) ?_
      refine lv_iconst (v := 1) hx hb dX2_expected_122 (by decide) ?_
      refine lv_iadd hx hb dX2_expected_123 ?_
      refine rv_top (y := nI (dN (F 1 a) (F 1 b) / 100 + 1)) (nI_1 _) ?_
      refine rv_iald (k := (dN (F 1 a) (F 1 b) / 100 + 1)) hx hb hK hPt 0 0 rfl rfl (show dN (F 1 a) (F 1 b) / 100 + 1 < 9 by omega) (by omega) dX2_expected_124 ?_
      refine rv_top (y := tb (dN (F 1 a) (F 1 b) / 100 + 1)) (T9_tb (by omega)) ?_
      refine lv_iload hx hb dX2_expected_125 (lv_at hl 0 rfl) ?_
      refine lv_isub hx hb dX2_expected_127 ?_
      refine lv_istore (lv' := [(6, .int ((tb (dN (F 1 a) (F 1 b) / 100 + 1)) - (tb (dN (F 1 a) (F 1 b) / 100)))), (5, .int (tb (dN (F 1 a) (F 1 b) / 100))), (4, .ref q35), (3, .int (nI (dN (F 1 a) (F 1 b)))), (0, .ref h), (1, .int (nI a)), (2, .int (nI b))]) hx hb dX2_expected_128 hl (by decide) rfl (fun ls hl => ?_)
      refine lv_iload hx hb dX2_expected_130 (lv_at hl 1 rfl) ?_
      refine lv_iload hx hb dX2_expected_132 (lv_at hl 0 rfl) ?_
      refine lv_iload_n hx hb dX2_expected_134 rfl (lv_at hl 3 rfl) ?_
      refine lv_iload_n hx hb dX2_expected_135 rfl (lv_at hl 3 rfl) ?_
      refine lv_bipush (v := 100) hx hb dX2_expected_136 (by decide) ?_
      refine lv_idiv hx hb dX2_expected_138 (by decide) ?_
      refine rv_top (y := nI (dN (F 1 a) (F 1 b) / 100)) (pk_div (d := 100) (by omega) (by decide) (by decide)) ?_
      refine lv_bipush (v := 100) hx hb dX2_expected_139 (by decide) ?_
      refine lv_imul hx hb dX2_expected_141 ?_
      refine lv_isub hx hb dX2_expected_142 ?_
      refine rv_top (y := nI (dN (F 1 a) (F 1 b) % 100)) (remL (by omega)) ?_
      refine lv_imul hx hb dX2_expected_143 ?_
      refine lv_bipush (v := 100) hx hb dX2_expected_144 (by decide) ?_
      refine lv_idiv hx hb dX2_expected_146 (by decide) ?_
      refine lv_iadd hx hb dX2_expected_147 ?_
      refine W.widen (k := 1) (n := 9) (by omega) (by omega) ?_
      exact W.iret (v := (tb (dN (F 1 a) (F 1 b) / 100)) + ((((tb (dN (F 1 a) (F 1 b) / 100 + 1)) - (tb (dN (F 1 a) (F 1 b) / 100))) * (nI (dN (F 1 a) (F 1 b) % 100))) / 100)) hx hb hr (fun t ht hW => ⟨⟨_, (), rfl, (show (tb (dN (F 1 a) (F 1 b) / 100)) + ((((tb (dN (F 1 a) (F 1 b) / 100 + 1)) - (tb (dN (F 1 a) (F 1 b) / 100))) * (nI (dN (F 1 a) (F 1 b) % 100))) / 100) = s_exp F a b from by exact exp_lt hle rfl c_100), trivial⟩, hS.F ht⟩) hS.2.2 dX2_expected_148
    · refine lv_sipush (v := 990) hx hb dX2_expected_103 (by decide) ?_
      refine W.widen (k := 1) (n := 9) (by omega) (by omega) ?_
      exact W.iret (v := 990) hx hb hr (fun t ht hW => ⟨⟨_, (), rfl, (show 990 = s_exp F a b from by exact exp_ge hle rfl c_100), trivial⟩, hS.F ht⟩) hS.2.2 dX2_expected_106
  · exact absurd (nI_pos' (by omega)) c_19

set_option maxHeartbeats 4000000 in
set_option maxRecDepth 100000 in
theorem c_X2_expected (l : Launch) (dC : Nat → ClassId) (dI : Nat → Nat → Nat) (cI : ClassId) (h al : Nat) (rw : Nat → Nat) (cA : ClassId) (n : Nat) (F : Nat → Nat → Int32) (ct : Nat → Int32) (sz : Nat) (a : Nat) (i_a : a < n) (b : Nat) (i_b : b < n) (hn : n ≤ 12) (hR : okR n F) : Met l yX2_expected wsX2_expected ({ frames := 1, cells := 1, slots := 9, locals := 26 } : Room) (va_Pc [.ref h, .int (nI a), .int (nI b)] (fun U => PT dC dI cI cA (wT h al rw cA cI n F ct) sz U)) (va_Qi (fun r (_ : Unit) => r = s_exp F a b) (fun _ _ => True) (fun q : Nat => sz ≤ q)) 1 9 (fun q : Nat => sz ≤ q) := by
  refine Met.ofW (cc := cX2_expected) (maxL := 7) (ret := (some .int)) (by decide) rfl ?_
  intro p e s m args below meth c s₁ B hml hv
  obtain ⟨rfl, hsz, hP0, hK, hE⟩ := hv
  have hx := B.exec
  have hb := B.bytes
  have hr := B.returns
  have hts := atoms_spec (ws := wsX2_expected) B.pre
  have hown : s.vm.findClass RX2 = some m.cls := findClass_of_methodNamed B.named
  have hlocks := B.notSynchronized
  subst hsz
  have hAn : ∀ q : Nat, q < s.heap.size → ¬ (fun q : Nat => s.heap.size ≤ q) q := fun q h9 => Nat.not_le.mpr h9
  have hA : ∀ q : Nat, s.heap.size ≤ q → (fun q : Nat => s.heap.size ≤ q) q := fun q h9 => h9
  generalize (fun q : Nat => s.heap.size ≤ q) = A at hA hAn hE ⊢
  have hP := hP0
  have hS : va_S A s.heap s.heap [] := va_S.rf
  have hinX2 : ∀ w ∈ wsX20, w ∈ wsX2_expected := by decide +kernel
  have hl := lv_entry ([.ref h, .int (nI a), .int (nI b)]) (n := 7) (Nat.le_of_ble_eq_true rfl)
  rw [lg_entry_eq]
  generalize (lg_sl ([.ref h, .int (nI a), .int (nI b)]) ++ List.replicate (7 - (lg_sl ([.ref h, .int (nI a), .int (nI b)])).length) Slot.unset).toArray = ls at hl ⊢
  have hl : lv_has ls 7 [(0, .ref h), (1, .int (nI a)), (2, .int (nI b))] := hl
  obtain ⟨H, hHe⟩ : ∃ H, H = s.heap := ⟨_, rfl⟩
  have hP : va_P (dC, dI) vwCl (wT h al rw cA cI n F ct) H := by rw [hHe]; exact hP
  have hS : va_S A s.heap H [] := by rw [hHe]; exact hS
  suffices h0 : W p l e (headSpec wsX2_expected ({ frames := 1, cells := 1, slots := 9, locals := 26 } : Room)).room s m ([.ref h, .int (nI a), .int (nI b)] : List Value).toArray below meth c H [] 0 0 (MQ below (va_Qi (fun r (_ : Unit) => r = s_exp F a b) (fun _ _ => True) A) ([.ref h, .int (nI a), .int (nI b)] : List Value).toArray s 1 9 A) (F0 m 0 ls []) from by have h9 := h0; rw [hHe] at h9; exact h9
  refine lv_aload_n hx hb dX2_expected_0 rfl (lv_at hl 0 rfl) ?_
  refine va_get (D := (dC, dI)) (ci := 2) (v := .ref al) (C := RX2) (T := TX2) (N := 4) hx hb hts hinX2 hown hK hP 0 rfl rfl 3 (by decide) (hts (.fieldLink RX2 9 "WrestleBookLaw$Sim" "all" "[[I") (by decide +kernel)) (fun _ h9 => h9) rfl dX2_expected_1 ?_
  refine lv_iload_n hx hb dX2_expected_4 rfl (lv_at hl 1 rfl) ?_
  refine rv_aald (k := a) hx hb hK hP 1 1 rfl rfl (show a < n by omega) (by omega) dX2_expected_5 ?_
  refine lv_iconst (v := 0) hx hb dX2_expected_6 (by decide) ?_
  refine rv_iald (k := 0) hx hb hK hP (2 + a) 0 (rl_get rfl (show a < n by omega)) rfl (by decide) (by decide) dX2_expected_7 ?_
  refine rv_top (y := F 1 a) rfl ?_
  refine lv_aload_n hx hb dX2_expected_8 rfl (lv_at hl 0 rfl) ?_
  refine va_get (D := (dC, dI)) (ci := 2) (v := .ref al) (C := RX2) (T := TX2) (N := 4) hx hb hts hinX2 hown hK hP 0 rfl rfl 3 (by decide) (hts (.fieldLink RX2 9 "WrestleBookLaw$Sim" "all" "[[I") (by decide +kernel)) (fun _ h9 => h9) rfl dX2_expected_9 ?_
  refine lv_iload_n hx hb dX2_expected_12 rfl (lv_at hl 2 rfl) ?_
  refine rv_aald (k := b) hx hb hK hP 1 1 rfl rfl (show b < n by omega) (by omega) dX2_expected_13 ?_
  refine lv_iconst (v := 0) hx hb dX2_expected_14 (by decide) ?_
  refine rv_iald (k := 0) hx hb hK hP (2 + b) 0 (rl_get rfl (show b < n by omega)) rfl (by decide) (by decide) dX2_expected_15 ?_
  refine rv_top (y := F 1 b) rfl ?_
  refine lv_isub hx hb dX2_expected_16 ?_
  refine lv_istore_n (lv' := [(3, .int ((F 1 a) - (F 1 b))), (0, .ref h), (1, .int (nI a)), (2, .int (nI b))]) hx hb dX2_expected_17 rfl hl (by decide) rfl (fun ls hl => ?_)
  refine lv_iload_n hx hb dX2_expected_18 rfl (lv_at hl 0 rfl) ?_
  refine lv_if_ge (tgt := 33) hx hb dX2_expected_19 (by decide) (fun c_19 => ?_) (fun c_19 => ?_)
  · have hle := exp_sg hR i_a i_b c_19
    obtain ⟨hd, hde⟩ := (hR.le i_a i_b hle)
    rw [hde] at hl
    refine lv_bipush (v := 9) hx hb dX2_expected_33 (by decide) ?_
    refine rv_newa (N' := 9) hx hb (hts (.arrayClass .int) (by decide +kernel)) (hK.sub (tys' := [(cI, .int)]) [0] rfl) vaP_nil D_nil hS hA (by decide) (rfl) (Nat.le_of_ble_eq_true rfl) (by show _ ≤ 1; omega) (by show _ ≤ 9; omega) dX2_expected_35 (fun q35 H hPt hDt hS => ?_)
    have hPt : va_P (dC, dI) vwCl ([(q35, .inl (cI, 9, .inl (fun _ => 0)))]) H := hPt
    have hDt : va_D A ([(q35, .inl (cI, 9, .inl (fun _ => 0)))]) := hDt
    have hP := keepS hP0 hAn hS
    refine lv_dup hx hb dX2_expected_37 rfl ?_
    refine lv_iconst (v := 0) hx hb dX2_expected_38 (by decide) ?_
    refine lv_sipush (v := 500) hx hb dX2_expected_39 (by decide) ?_
    refine rv_iast (k := 0) hx hb hK hPt hDt hS 0 0 rfl rfl (show 0 < 9 by omega) (by omega) dX2_expected_42 (fun H locs hPt hDt hS => ?_)
    have hPt : va_P (dC, dI) vwCl ([(q35, .inl (cI, 9, .inl (upd (fun _ => 0) 0 500)))]) H := hPt
    have hDt : va_D A ([(q35, .inl (cI, 9, .inl (upd (fun _ => 0) 0 500)))]) := hDt
    have hP := keepS hP0 hAn hS
    refine lv_dup hx hb dX2_expected_43 rfl ?_
    refine lv_iconst (v := 1) hx hb dX2_expected_44 (by decide) ?_
    refine lv_sipush (v := 640) hx hb dX2_expected_45 (by decide) ?_
    refine rv_iast (k := 1) hx hb hK hPt hDt hS 0 0 rfl rfl (show 1 < 9 by omega) (by omega) dX2_expected_48 (fun H locs hPt hDt hS => ?_)
    have hPt : va_P (dC, dI) vwCl ([(q35, .inl (cI, 9, .inl (upd (upd (fun _ => 0) 0 500) 1 640)))]) H := hPt
    have hDt : va_D A ([(q35, .inl (cI, 9, .inl (upd (upd (fun _ => 0) 0 500) 1 640)))]) := hDt
    have hP := keepS hP0 hAn hS
    refine lv_dup hx hb dX2_expected_49 rfl ?_
    refine lv_iconst (v := 2) hx hb dX2_expected_50 (by decide) ?_
    refine lv_sipush (v := 760) hx hb dX2_expected_51 (by decide) ?_
    refine rv_iast (k := 2) hx hb hK hPt hDt hS 0 0 rfl rfl (show 2 < 9 by omega) (by omega) dX2_expected_54 (fun H locs hPt hDt hS => ?_)
    have hPt : va_P (dC, dI) vwCl ([(q35, .inl (cI, 9, .inl (upd (upd (upd (fun _ => 0) 0 500) 1 640) 2 760)))]) H := hPt
    have hDt : va_D A ([(q35, .inl (cI, 9, .inl (upd (upd (upd (fun _ => 0) 0 500) 1 640) 2 760)))]) := hDt
    have hP := keepS hP0 hAn hS
    refine lv_dup hx hb dX2_expected_55 rfl ?_
    refine lv_iconst (v := 3) hx hb dX2_expected_56 (by decide) ?_
    refine lv_sipush (v := 849) hx hb dX2_expected_57 (by decide) ?_
    refine rv_iast (k := 3) hx hb hK hPt hDt hS 0 0 rfl rfl (show 3 < 9 by omega) (by omega) dX2_expected_60 (fun H locs hPt hDt hS => ?_)
    have hPt : va_P (dC, dI) vwCl ([(q35, .inl (cI, 9, .inl (upd (upd (upd (upd (fun _ => 0) 0 500) 1 640) 2 760) 3 849)))]) H := hPt
    have hDt : va_D A ([(q35, .inl (cI, 9, .inl (upd (upd (upd (upd (fun _ => 0) 0 500) 1 640) 2 760) 3 849)))]) := hDt
    have hP := keepS hP0 hAn hS
    refine lv_dup hx hb dX2_expected_61 rfl ?_
    refine lv_iconst (v := 4) hx hb dX2_expected_62 (by decide) ?_
    refine lv_sipush (v := 909) hx hb dX2_expected_63 (by decide) ?_
    refine rv_iast (k := 4) hx hb hK hPt hDt hS 0 0 rfl rfl (show 4 < 9 by omega) (by omega) dX2_expected_66 (fun H locs hPt hDt hS => ?_)
    have hPt : va_P (dC, dI) vwCl ([(q35, .inl (cI, 9, .inl (upd (upd (upd (upd (upd (fun _ => 0) 0 500) 1 640) 2 760) 3 849) 4 909)))]) H := hPt
    have hDt : va_D A ([(q35, .inl (cI, 9, .inl (upd (upd (upd (upd (upd (fun _ => 0) 0 500) 1 640) 2 760) 3 849) 4 909)))]) := hDt
    have hP := keepS hP0 hAn hS
    refine lv_dup hx hb dX2_expected_67 rfl ?_
    refine lv_iconst (v := 5) hx hb dX2_expected_68 (by decide) ?_
    refine lv_sipush (v := 947) hx hb dX2_expected_69 (by decide) ?_
    refine rv_iast (k := 5) hx hb hK hPt hDt hS 0 0 rfl rfl (show 5 < 9 by omega) (by omega) dX2_expected_72 (fun H locs hPt hDt hS => ?_)
    have hPt : va_P (dC, dI) vwCl ([(q35, .inl (cI, 9, .inl (upd (upd (upd (upd (upd (upd (fun _ => 0) 0 500) 1 640) 2 760) 3 849) 4 909) 5 947)))]) H := hPt
    have hDt : va_D A ([(q35, .inl (cI, 9, .inl (upd (upd (upd (upd (upd (upd (fun _ => 0) 0 500) 1 640) 2 760) 3 849) 4 909) 5 947)))]) := hDt
    have hP := keepS hP0 hAn hS
    refine lv_dup hx hb dX2_expected_73 rfl ?_
    refine lv_bipush (v := 6) hx hb dX2_expected_74 (by decide) ?_
    refine lv_sipush (v := 969) hx hb dX2_expected_76 (by decide) ?_
    refine rv_iast (k := 6) hx hb hK hPt hDt hS 0 0 rfl rfl (show 6 < 9 by omega) (by omega) dX2_expected_79 (fun H locs hPt hDt hS => ?_)
    have hPt : va_P (dC, dI) vwCl ([(q35, .inl (cI, 9, .inl (upd (upd (upd (upd (upd (upd (upd (fun _ => 0) 0 500) 1 640) 2 760) 3 849) 4 909) 5 947) 6 969)))]) H := hPt
    have hDt : va_D A ([(q35, .inl (cI, 9, .inl (upd (upd (upd (upd (upd (upd (upd (fun _ => 0) 0 500) 1 640) 2 760) 3 849) 4 909) 5 947) 6 969)))]) := hDt
    have hP := keepS hP0 hAn hS
    refine lv_dup hx hb dX2_expected_80 rfl ?_
    refine lv_bipush (v := 7) hx hb dX2_expected_81 (by decide) ?_
    refine lv_sipush (v := 983) hx hb dX2_expected_83 (by decide) ?_
    refine rv_iast (k := 7) hx hb hK hPt hDt hS 0 0 rfl rfl (show 7 < 9 by omega) (by omega) dX2_expected_86 (fun H locs hPt hDt hS => ?_)
    have hPt : va_P (dC, dI) vwCl ([(q35, .inl (cI, 9, .inl (upd (upd (upd (upd (upd (upd (upd (upd (fun _ => 0) 0 500) 1 640) 2 760) 3 849) 4 909) 5 947) 6 969) 7 983)))]) H := hPt
    have hDt : va_D A ([(q35, .inl (cI, 9, .inl (upd (upd (upd (upd (upd (upd (upd (upd (fun _ => 0) 0 500) 1 640) 2 760) 3 849) 4 909) 5 947) 6 969) 7 983)))]) := hDt
    have hP := keepS hP0 hAn hS
    refine lv_dup hx hb dX2_expected_87 rfl ?_
    refine lv_bipush (v := 8) hx hb dX2_expected_88 (by decide) ?_
    refine lv_sipush (v := 990) hx hb dX2_expected_90 (by decide) ?_
    refine rv_iast (k := 8) hx hb hK hPt hDt hS 0 0 rfl rfl (show 8 < 9 by omega) (by omega) dX2_expected_93 (fun H locs hPt hDt hS => ?_)
    have hPt : va_P (dC, dI) vwCl ([(q35, .inl (cI, 9, .inl (upd (upd (upd (upd (upd (upd (upd (upd (upd (fun _ => 0) 0 500) 1 640) 2 760) 3 849) 4 909) 5 947) 6 969) 7 983) 8 990)))]) H := hPt
    have hDt : va_D A ([(q35, .inl (cI, 9, .inl (upd (upd (upd (upd (upd (upd (upd (upd (upd (fun _ => 0) 0 500) 1 640) 2 760) 3 849) 4 909) 5 947) 6 969) 7 983) 8 990)))]) := hDt
    have hP := keepS hP0 hAn hS
    have hPt : va_P (dC, dI) vwCl [(q35, .inl (cI, 9, .inl T9))] H := hPt
    refine lv_astore (lv' := [(4, .ref q35), (3, .int (nI (dN (F 1 a) (F 1 b)))), (0, .ref h), (1, .int (nI a)), (2, .int (nI b))]) hx hb dX2_expected_94 hl (by decide) rfl (fun ls hl => ?_)
    refine lv_iload_n hx hb dX2_expected_96 rfl (lv_at hl 1 rfl) ?_
    refine lv_sipush (v := 800) hx hb dX2_expected_97 (by decide) ?_
    refine rv_icmp_lt (tgt := 107) hx hb (a := (dN (F 1 a) (F 1 b))) (b := 800) (by omega) (by omega) dX2_expected_100 (by decide) (fun c_100 => ?_) (fun c_100 => ?_)
    · refine lv_aload hx hb dX2_expected_107 (lv_at hl 0 rfl) ?_
      refine lv_iload_n hx hb dX2_expected_109 rfl (lv_at hl 1 rfl) ?_
      refine lv_bipush (v := 100) hx hb dX2_expected_110 (by decide) ?_
      refine lv_idiv hx hb dX2_expected_112 (by decide) ?_
      refine rv_top (y := nI (dN (F 1 a) (F 1 b) / 100)) (pk_div (d := 100) (by omega) (by decide) (by decide)) ?_
      refine rv_iald (k := (dN (F 1 a) (F 1 b) / 100)) hx hb hK hPt 0 0 rfl rfl (show dN (F 1 a) (F 1 b) / 100 < 9 by omega) (by omega) dX2_expected_113 ?_
      refine rv_top (y := tb (dN (F 1 a) (F 1 b) / 100)) (T9_tb (by omega)) ?_
      refine lv_istore (lv' := [(5, .int (tb (dN (F 1 a) (F 1 b) / 100))), (4, .ref q35), (3, .int (nI (dN (F 1 a) (F 1 b)))), (0, .ref h), (1, .int (nI a)), (2, .int (nI b))]) hx hb dX2_expected_114 hl (by decide) rfl (fun ls hl => ?_)
      refine lv_aload hx hb dX2_expected_116 (lv_at hl 1 rfl) ?_
      refine lv_iload_n hx hb dX2_expected_118 rfl (lv_at hl 2 rfl) ?_
      refine lv_bipush (v := 100) hx hb dX2_expected_119 (by decide) ?_
      refine lv_idiv hx hb dX2_expected_121 (by decide) ?_
      refine rv_top (y := nI (dN (F 1 a) (F 1 b) / 100)) (pk_div (d := 100) (by omega) (by decide) (by decide)) ?_
      refine lv_iconst (v := 1) hx hb dX2_expected_122 (by decide) ?_
      refine lv_iadd hx hb dX2_expected_123 ?_
      refine rv_top (y := nI (dN (F 1 a) (F 1 b) / 100 + 1)) (nI_1 _) ?_
      refine rv_iald (k := (dN (F 1 a) (F 1 b) / 100 + 1)) hx hb hK hPt 0 0 rfl rfl (show dN (F 1 a) (F 1 b) / 100 + 1 < 9 by omega) (by omega) dX2_expected_124 ?_
      refine rv_top (y := tb (dN (F 1 a) (F 1 b) / 100 + 1)) (T9_tb (by omega)) ?_
      refine lv_iload hx hb dX2_expected_125 (lv_at hl 0 rfl) ?_
      refine lv_isub hx hb dX2_expected_127 ?_
      refine lv_istore (lv' := [(6, .int ((tb (dN (F 1 a) (F 1 b) / 100 + 1)) - (tb (dN (F 1 a) (F 1 b) / 100)))), (5, .int (tb (dN (F 1 a) (F 1 b) / 100))), (4, .ref q35), (3, .int (nI (dN (F 1 a) (F 1 b)))), (0, .ref h), (1, .int (nI a)), (2, .int (nI b))]) hx hb dX2_expected_128 hl (by decide) rfl (fun ls hl => ?_)
      refine lv_iload hx hb dX2_expected_130 (lv_at hl 1 rfl) ?_
      refine lv_iload hx hb dX2_expected_132 (lv_at hl 0 rfl) ?_
      refine lv_iload_n hx hb dX2_expected_134 rfl (lv_at hl 3 rfl) ?_
      refine lv_iload_n hx hb dX2_expected_135 rfl (lv_at hl 3 rfl) ?_
      refine lv_bipush (v := 100) hx hb dX2_expected_136 (by decide) ?_
      refine lv_idiv hx hb dX2_expected_138 (by decide) ?_
      refine rv_top (y := nI (dN (F 1 a) (F 1 b) / 100)) (pk_div (d := 100) (by omega) (by decide) (by decide)) ?_
      refine lv_bipush (v := 100) hx hb dX2_expected_139 (by decide) ?_
      refine lv_imul hx hb dX2_expected_141 ?_
      refine lv_isub hx hb dX2_expected_142 ?_
      refine rv_top (y := nI (dN (F 1 a) (F 1 b) % 100)) (remL (by omega)) ?_
      refine lv_imul hx hb dX2_expected_143 ?_
      refine lv_bipush (v := 100) hx hb dX2_expected_144 (by decide) ?_
      refine lv_idiv hx hb dX2_expected_146 (by decide) ?_
      refine lv_iadd hx hb dX2_expected_147 ?_
      refine W.widen (k := 1) (n := 9) (by omega) (by omega) ?_
      exact W.iret (v := (tb (dN (F 1 a) (F 1 b) / 100)) + ((((tb (dN (F 1 a) (F 1 b) / 100 + 1)) - (tb (dN (F 1 a) (F 1 b) / 100))) * (nI (dN (F 1 a) (F 1 b) % 100))) / 100)) hx hb hr (fun t ht hW => ⟨⟨_, (), rfl, (show (tb (dN (F 1 a) (F 1 b) / 100)) + ((((tb (dN (F 1 a) (F 1 b) / 100 + 1)) - (tb (dN (F 1 a) (F 1 b) / 100))) * (nI (dN (F 1 a) (F 1 b) % 100))) / 100) = s_exp F a b from by exact exp_lt hle rfl c_100), trivial⟩, hS.F ht⟩) hS.2.2 dX2_expected_148
    · refine lv_sipush (v := 990) hx hb dX2_expected_103 (by decide) ?_
      refine W.widen (k := 1) (n := 9) (by omega) (by omega) ?_
      exact W.iret (v := 990) hx hb hr (fun t ht hW => ⟨⟨_, (), rfl, (show 990 = s_exp F a b from by exact exp_ge hle rfl c_100), trivial⟩, hS.F ht⟩) hS.2.2 dX2_expected_106
  · have hle : ¬ F 1 b ≤ F 1 a := fun q => c_19 (by rw [(hR.le i_a i_b q).2]; exact nI_pos' (by have := (hR.le i_a i_b q).1; omega))
    refine lv_sipush (v := 1000) hx hb dX2_expected_22 (by decide) ?_
    refine lv_aload_n hx hb dX2_expected_25 rfl (lv_at hl 1 rfl) ?_
    refine lv_iload_n hx hb dX2_expected_26 rfl (lv_at hl 3 rfl) ?_
    refine lv_iload_n hx hb dX2_expected_27 rfl (lv_at hl 2 rfl) ?_
    refine va_calli (va_runV (As := [.int (nI b), .int (nI a)]) (rest := [.int 1000]) ⟨hx, hb, hml, hown, hts⟩ (c_X2_expectedP l dC dI cI h al rw cA n F ct H.size b (show b < n by omega) a (show a < n by omega) hn hR (i32_le_of_not hle)) (cwV 2 hts gX2_expected_X2_expected rfl rfl rfl (by decide +kernel) ⟨Nat.le_of_ble_eq_true rfl, Nat.le_of_ble_eq_true rfl⟩) ⟨PT.blind, va_recv hK hP (ci := 2) (q0 := 0) rfl rfl, fun U hU hW => ⟨rfl, PT.go hP hK hE hS hA hU hW⟩⟩ rfl rfl hl.1 rfl (lv_room (Nat.le_of_ble_eq_true rfl)) dX2_expected_28 ⟨(by show _ ≤ 1; omega), (by show _ ≤ 9; omega)⟩) hS (fun q h8 h9 => absurd h9 (Nat.not_le.mpr h8)) (fun q h9 => hA q (Nat.le_trans hS.1 h9)) (fun r u9 t9 H locs ht9 hvm9 hw9 hB9 hz9 hk9 hS => ?_)
    have hP := P_new hP hk9
    have hw9 : r = s_exp F b a := hw9
    subst hw9
    refine lv_isub hx hb dX2_expected_31 ?_
    refine W.widen (k := 1) (n := 9) (by omega) (by omega) ?_
    exact W.iret (v := 1000 - (s_exp F b a)) hx hb hr (fun t ht hW => ⟨⟨_, (), rfl, (show 1000 - (s_exp F b a) = s_exp F a b from by exact exp_neg hle), trivial⟩, hS.F ht⟩) hS.2.2 dX2_expected_32

set_option maxHeartbeats 4000000 in
set_option maxRecDepth 100000 in
theorem c_X2_weight (l : Launch) (dC : Nat → ClassId) (dI : Nat → Nat → Nat) (cI : ClassId) (h al : Nat) (rw : Nat → Nat) (cA : ClassId) (n : Nat) (F : Nat → Nat → Int32) (ct : Nat → Int32) (sz : Nat) (w : Nat) (i_w : w < n) (hn : n ≤ 12) : Met l yX2_weight wsX2_weight ({ frames := 0, cells := 0, slots := 0, locals := 0 } : Room) (va_Pc [.ref h, .int (nI w)] (fun U => PT dC dI cI cA (wT h al rw cA cI n F ct) sz U)) (va_Qi (fun r (_ : Unit) => r = s_wt F w) (fun _ _ => True) (fun q : Nat => sz ≤ q)) 0 0 (fun q : Nat => sz ≤ q) := by
  refine Met.ofW (cc := cX2_weight) (maxL := 2) (ret := (some .int)) (by decide) rfl ?_
  intro p e s m args below meth c s₁ B hml hv
  obtain ⟨rfl, hsz, hP0, hK, hE⟩ := hv
  have hx := B.exec
  have hb := B.bytes
  have hr := B.returns
  have hts := atoms_spec (ws := wsX2_weight) B.pre
  have hown : s.vm.findClass RX2 = some m.cls := findClass_of_methodNamed B.named
  have hlocks := B.notSynchronized
  subst hsz
  have hAn : ∀ q : Nat, q < s.heap.size → ¬ (fun q : Nat => s.heap.size ≤ q) q := fun q h9 => Nat.not_le.mpr h9
  have hA : ∀ q : Nat, s.heap.size ≤ q → (fun q : Nat => s.heap.size ≤ q) q := fun q h9 => h9
  generalize (fun q : Nat => s.heap.size ≤ q) = A at hA hAn hE ⊢
  have hP := hP0
  have hS : va_S A s.heap s.heap [] := va_S.rf
  have hinX2 : ∀ w ∈ wsX20, w ∈ wsX2_weight := by decide +kernel
  have hl := lv_entry ([.ref h, .int (nI w)]) (n := 2) (Nat.le_of_ble_eq_true rfl)
  rw [lg_entry_eq]
  generalize (lg_sl ([.ref h, .int (nI w)]) ++ List.replicate (2 - (lg_sl ([.ref h, .int (nI w)])).length) Slot.unset).toArray = ls at hl ⊢
  have hl : lv_has ls 2 [(0, .ref h), (1, .int (nI w))] := hl
  obtain ⟨H, hHe⟩ : ∃ H, H = s.heap := ⟨_, rfl⟩
  have hP : va_P (dC, dI) vwCl (wT h al rw cA cI n F ct) H := by rw [hHe]; exact hP
  have hS : va_S A s.heap H [] := by rw [hHe]; exact hS
  suffices h0 : W p l e (headSpec wsX2_weight ({ frames := 0, cells := 0, slots := 0, locals := 0 } : Room)).room s m ([.ref h, .int (nI w)] : List Value).toArray below meth c H [] 0 0 (MQ below (va_Qi (fun r (_ : Unit) => r = s_wt F w) (fun _ _ => True) A) ([.ref h, .int (nI w)] : List Value).toArray s 0 0 A) (F0 m 0 ls []) from by have h9 := h0; rw [hHe] at h9; exact h9
  refine lv_aload_n hx hb dX2_weight_0 rfl (lv_at hl 0 rfl) ?_
  refine va_get (D := (dC, dI)) (ci := 2) (v := .ref al) (C := RX2) (T := TX2) (N := 4) hx hb hts hinX2 hown hK hP 0 rfl rfl 3 (by decide) (hts (.fieldLink RX2 9 "WrestleBookLaw$Sim" "all" "[[I") (by decide +kernel)) (fun _ h9 => h9) rfl dX2_weight_1 ?_
  refine lv_iload_n hx hb dX2_weight_4 rfl (lv_at hl 1 rfl) ?_
  refine rv_aald (k := w) hx hb hK hP 1 1 rfl rfl (show w < n by omega) (by omega) dX2_weight_5 ?_
  refine lv_iconst (v := 3) hx hb dX2_weight_6 (by decide) ?_
  refine rv_iald (k := 3) hx hb hK hP (2 + w) 0 (rl_get rfl (show w < n by omega)) rfl (by decide) (by decide) dX2_weight_7 ?_
  refine rv_top (y := F 3 w) rfl ?_
  refine lv_bipush (v := 10) hx hb dX2_weight_8 (by decide) ?_
  refine lv_icmp_ge (tgt := 16) hx hb dX2_weight_10 (by decide) (fun c_10 => ?_) (fun c_10 => ?_)
  · refine lv_aload_n hx hb dX2_weight_16 rfl (lv_at hl 0 rfl) ?_
    refine va_get (D := (dC, dI)) (ci := 2) (v := .ref al) (C := RX2) (T := TX2) (N := 4) hx hb hts hinX2 hown hK hP 0 rfl rfl 3 (by decide) (hts (.fieldLink RX2 9 "WrestleBookLaw$Sim" "all" "[[I") (by decide +kernel)) (fun _ h9 => h9) rfl dX2_weight_17 ?_
    refine lv_iload_n hx hb dX2_weight_20 rfl (lv_at hl 1 rfl) ?_
    refine rv_aald (k := w) hx hb hK hP 1 1 rfl rfl (show w < n by omega) (by omega) dX2_weight_21 ?_
    refine lv_iconst (v := 0) hx hb dX2_weight_22 (by decide) ?_
    refine rv_iald (k := 0) hx hb hK hP (2 + w) 0 (rl_get rfl (show w < n by omega)) rfl (by decide) (by decide) dX2_weight_23 ?_
    refine rv_top (y := F 1 w) rfl ?_
    refine lv_sipush (v := 2000) hx hb dX2_weight_24 (by decide) ?_
    refine lv_icmp_ge (tgt := 35) hx hb dX2_weight_27 (by decide) (fun c_27 => ?_) (fun c_27 => ?_)
    · refine lv_bipush (v := 10) hx hb dX2_weight_35 (by decide) ?_
      refine W.widen (k := 0) (n := 0) (by omega) (by omega) ?_
      exact W.iret (v := 10) hx hb hr (fun t ht hW => ⟨⟨_, (), rfl, (show 10 = s_wt F w from by unfold s_wt; rw [if_pos c_10, if_neg (Int32.not_lt.mpr c_27)]), trivial⟩, hS.F ht⟩) hS.2.2 dX2_weight_37
    · refine lv_bipush (v := 20) hx hb dX2_weight_30 (by decide) ?_
      refine lv_goto (tgt := 37) hx hb dX2_weight_32 (by decide) ?_
      refine W.widen (k := 0) (n := 0) (by omega) (by omega) ?_
      exact W.iret (v := 20) hx hb hr (fun t ht hW => ⟨⟨_, (), rfl, (show 20 = s_wt F w from by unfold s_wt; rw [if_pos c_10, if_pos (Int32.not_le.mp c_27)]), trivial⟩, hS.F ht⟩) hS.2.2 dX2_weight_37
  · refine lv_bipush (v := 40) hx hb dX2_weight_13 (by decide) ?_
    refine W.widen (k := 0) (n := 0) (by omega) (by omega) ?_
    exact W.iret (v := 40) hx hb hr (fun t ht hW => ⟨⟨_, (), rfl, (show 40 = s_wt F w from by unfold s_wt; rw [if_neg c_10]), trivial⟩, hS.F ht⟩) hS.2.2 dX2_weight_15

set_option maxHeartbeats 4000000 in
set_option maxRecDepth 100000 in
theorem c_X2_change (l : Launch) (dC : Nat → ClassId) (dI : Nat → Nat → Nat) (cI : ClassId) (h al : Nat) (rw : Nat → Nat) (cA : ClassId) (n : Nat) (F : Nat → Nat → Int32) (ct : Nat → Int32) (sz : Nat) (w : Nat) (i_w : w < n) (o : Nat) (i_o : o < n) (vr : Int32) (hn : n ≤ 12) (hR : okR n F) : Met l yX2_change wsX2_change ({ frames := 2, cells := 1, slots := 9, locals := 52 } : Room) (va_Pc [.ref h, .int (nI w), .int (nI o), .int vr] (fun U => PT dC dI cI cA (wT h al rw cA cI n F ct) sz U)) (va_Qi (fun r (_ : Unit) => r = s_gain F w o vr) (fun _ _ => True) (fun q : Nat => sz ≤ q)) 1 9 (fun q : Nat => sz ≤ q) := by
  refine Met.ofW (cc := cX2_change) (maxL := 6) (ret := (some .int)) (by decide) rfl ?_
  intro p e s m args below meth c s₁ B hml hv
  obtain ⟨rfl, hsz, hP0, hK, hE⟩ := hv
  have hx := B.exec
  have hb := B.bytes
  have hr := B.returns
  have hts := atoms_spec (ws := wsX2_change) B.pre
  have hown : s.vm.findClass RX2 = some m.cls := findClass_of_methodNamed B.named
  have hlocks := B.notSynchronized
  subst hsz
  have hAn : ∀ q : Nat, q < s.heap.size → ¬ (fun q : Nat => s.heap.size ≤ q) q := fun q h9 => Nat.not_le.mpr h9
  have hA : ∀ q : Nat, s.heap.size ≤ q → (fun q : Nat => s.heap.size ≤ q) q := fun q h9 => h9
  generalize (fun q : Nat => s.heap.size ≤ q) = A at hA hAn hE ⊢
  have hP := hP0
  have hS : va_S A s.heap s.heap [] := va_S.rf
  have hinX2 : ∀ w ∈ wsX20, w ∈ wsX2_change := by decide +kernel
  have hl := lv_entry ([.ref h, .int (nI w), .int (nI o), .int vr]) (n := 6) (Nat.le_of_ble_eq_true rfl)
  rw [lg_entry_eq]
  generalize (lg_sl ([.ref h, .int (nI w), .int (nI o), .int vr]) ++ List.replicate (6 - (lg_sl ([.ref h, .int (nI w), .int (nI o), .int vr])).length) Slot.unset).toArray = ls at hl ⊢
  have hl : lv_has ls 6 [(0, .ref h), (1, .int (nI w)), (2, .int (nI o)), (3, .int vr)] := hl
  obtain ⟨H, hHe⟩ : ∃ H, H = s.heap := ⟨_, rfl⟩
  have hP : va_P (dC, dI) vwCl (wT h al rw cA cI n F ct) H := by rw [hHe]; exact hP
  have hS : va_S A s.heap H [] := by rw [hHe]; exact hS
  suffices h0 : W p l e (headSpec wsX2_change ({ frames := 2, cells := 1, slots := 9, locals := 52 } : Room)).room s m ([.ref h, .int (nI w), .int (nI o), .int vr] : List Value).toArray below meth c H [] 0 0 (MQ below (va_Qi (fun r (_ : Unit) => r = s_gain F w o vr) (fun _ _ => True) A) ([.ref h, .int (nI w), .int (nI o), .int vr] : List Value).toArray s 1 9 A) (F0 m 0 ls []) from by have h9 := h0; rw [hHe] at h9; exact h9
  refine lv_aload_n hx hb dX2_change_0 rfl (lv_at hl 0 rfl) ?_
  refine lv_iload_n hx hb dX2_change_1 rfl (lv_at hl 1 rfl) ?_
  refine va_calli (va_runV (As := [.int (nI w)]) (rest := []) ⟨hx, hb, hml, hown, hts⟩ (c_X2_weight l dC dI cI h al rw cA n F ct H.size w (show w < n by omega) hn) (cwV 1 hts gX2_change_X2_weight rfl rfl rfl (by decide +kernel) ⟨Nat.le_of_ble_eq_true rfl, Nat.le_of_ble_eq_true rfl⟩) ⟨PT.blind, va_recv hK hP (ci := 2) (q0 := 0) rfl rfl, fun U hU hW => ⟨rfl, PT.go hP hK hE hS hA hU hW⟩⟩ rfl rfl hl.1 rfl (lv_room (Nat.le_of_ble_eq_true rfl)) dX2_change_2 ⟨(by show _ ≤ 1; omega), (by show _ ≤ 9; omega)⟩) hS (fun q h8 h9 => absurd h9 (Nat.not_le.mpr h8)) (fun q h9 => hA q (Nat.le_trans hS.1 h9)) (fun r u9 t9 H locs ht9 hvm9 hw9 hB9 hz9 hk9 hS => ?_)
  have hP := P_new hP hk9
  have hw9 : r = s_wt F w := hw9
  subst hw9
  refine lv_iload_n hx hb dX2_change_5 rfl (lv_at hl 3 rfl) ?_
  refine lv_sipush (v := 500) hx hb dX2_change_6 (by decide) ?_
  refine lv_imul hx hb dX2_change_9 ?_
  refine lv_aload_n hx hb dX2_change_10 rfl (lv_at hl 0 rfl) ?_
  refine lv_iload_n hx hb dX2_change_11 rfl (lv_at hl 1 rfl) ?_
  refine lv_iload_n hx hb dX2_change_12 rfl (lv_at hl 2 rfl) ?_
  refine va_calli (va_runV (As := [.int (nI w), .int (nI o)]) (rest := [.int (vr * 500), .int (s_wt F w)]) ⟨hx, hb, hml, hown, hts⟩ (c_X2_expected l dC dI cI h al rw cA n F ct H.size w (show w < n by omega) o (show o < n by omega) hn hR) (cwV 2 hts gX2_change_X2_expected rfl rfl rfl (by decide +kernel) ⟨Nat.le_of_ble_eq_true rfl, Nat.le_of_ble_eq_true rfl⟩) ⟨PT.blind, va_recv hK hP (ci := 2) (q0 := 0) rfl rfl, fun U hU hW => ⟨rfl, PT.go hP hK hE hS hA hU hW⟩⟩ rfl rfl hl.1 rfl (lv_room (Nat.le_of_ble_eq_true rfl)) dX2_change_13 ⟨(by show _ ≤ 1; omega), (by show _ ≤ 9; omega)⟩) hS (fun q h8 h9 => absurd h9 (Nat.not_le.mpr h8)) (fun q h9 => hA q (Nat.le_trans hS.1 h9)) (fun r u9 t9 H locs ht9 hvm9 hw9 hB9 hz9 hk9 hS => ?_)
  have hP := P_new hP hk9
  have hw9 : r = s_exp F w o := hw9
  subst hw9
  refine lv_isub hx hb dX2_change_16 ?_
  refine lv_imul hx hb dX2_change_17 ?_
  refine lv_sipush (v := 1000) hx hb dX2_change_18 (by decide) ?_
  refine lv_idiv hx hb dX2_change_21 (by decide) ?_
  refine lv_istore (lv' := [(4, .int (((s_wt F w) * ((vr * 500) - (s_exp F w o))) / 1000)), (0, .ref h), (1, .int (nI w)), (2, .int (nI o)), (3, .int vr)]) hx hb dX2_change_22 hl (by decide) rfl (fun ls hl => ?_)
  refine lv_aload_n hx hb dX2_change_24 rfl (lv_at hl 1 rfl) ?_
  refine va_get (D := (dC, dI)) (ci := 2) (v := .ref al) (C := RX2) (T := TX2) (N := 4) hx hb hts hinX2 hown hK hP 0 rfl rfl 3 (by decide) (hts (.fieldLink RX2 9 "WrestleBookLaw$Sim" "all" "[[I") (by decide +kernel)) (fun _ h9 => h9) rfl dX2_change_25 ?_
  refine lv_iload_n hx hb dX2_change_28 rfl (lv_at hl 2 rfl) ?_
  refine rv_aald (k := w) hx hb hK hP 1 1 rfl rfl (show w < n by omega) (by omega) dX2_change_29 ?_
  refine lv_iconst (v := 0) hx hb dX2_change_30 (by decide) ?_
  refine rv_iald (k := 0) hx hb hK hP (2 + w) 0 (rl_get rfl (show w < n by omega)) rfl (by decide) (by decide) dX2_change_31 ?_
  refine rv_top (y := F 1 w) rfl ?_
  refine lv_iload hx hb dX2_change_32 (lv_at hl 0 rfl) ?_
  refine lv_iadd hx hb dX2_change_34 ?_
  refine lv_istore (lv' := [(5, .int ((F 1 w) + (((s_wt F w) * ((vr * 500) - (s_exp F w o))) / 1000))), (4, .int (((s_wt F w) * ((vr * 500) - (s_exp F w o))) / 1000)), (0, .ref h), (1, .int (nI w)), (2, .int (nI o)), (3, .int vr)]) hx hb dX2_change_35 hl (by decide) rfl (fun ls hl => ?_)
  refine lv_iload hx hb dX2_change_37 (lv_at hl 0 rfl) ?_
  refine lv_bipush (v := 100) hx hb dX2_change_39 (by decide) ?_
  refine lv_icmp_ge (tgt := 48) hx hb dX2_change_41 (by decide) (fun c_41 => ?_) (fun c_41 => ?_)
  · refine lv_iload hx hb dX2_change_48 (lv_at hl 0 rfl) ?_
    refine lv_sipush (v := 3000) hx hb dX2_change_50 (by decide) ?_
    refine lv_icmp_le (tgt := 61) hx hb dX2_change_53 (by decide) (fun c_53 => ?_) (fun c_53 => ?_)
    · refine lv_iload hx hb dX2_change_61 (lv_at hl 0 rfl) ?_
      refine lv_aload_n hx hb dX2_change_63 rfl (lv_at hl 2 rfl) ?_
      refine va_get (D := (dC, dI)) (ci := 2) (v := .ref al) (C := RX2) (T := TX2) (N := 4) hx hb hts hinX2 hown hK hP 0 rfl rfl 3 (by decide) (hts (.fieldLink RX2 9 "WrestleBookLaw$Sim" "all" "[[I") (by decide +kernel)) (fun _ h9 => h9) rfl dX2_change_64 ?_
      refine lv_iload_n hx hb dX2_change_67 rfl (lv_at hl 3 rfl) ?_
      refine rv_aald (k := w) hx hb hK hP 1 1 rfl rfl (show w < n by omega) (by omega) dX2_change_68 ?_
      refine lv_iconst (v := 0) hx hb dX2_change_69 (by decide) ?_
      refine rv_iald (k := 0) hx hb hK hP (2 + w) 0 (rl_get rfl (show w < n by omega)) rfl (by decide) (by decide) dX2_change_70 ?_
      refine rv_top (y := F 1 w) rfl ?_
      refine lv_isub hx hb dX2_change_71 ?_
      refine W.widen (k := 1) (n := 9) (by omega) (by omega) ?_
      exact W.iret (v := ((F 1 w) + (((s_wt F w) * ((vr * 500) - (s_exp F w o))) / 1000)) - (F 1 w)) hx hb hr (fun t ht hW => ⟨⟨_, (), rfl, (show ((F 1 w) + (((s_wt F w) * ((vr * 500) - (s_exp F w o))) / 1000)) - (F 1 w) = s_gain F w o vr from by unfold s_gain s_then; rw [← cl1 c_41 c_53]), trivial⟩, hS.F ht⟩) hS.2.2 dX2_change_72
    · refine lv_sipush (v := 3000) hx hb dX2_change_56 (by decide) ?_
      refine lv_istore (lv' := [(5, .int 3000), (4, .int (((s_wt F w) * ((vr * 500) - (s_exp F w o))) / 1000)), (0, .ref h), (1, .int (nI w)), (2, .int (nI o)), (3, .int vr)]) hx hb dX2_change_59 hl (by decide) rfl (fun ls hl => ?_)
      refine lv_iload hx hb dX2_change_61 (lv_at hl 0 rfl) ?_
      refine lv_aload_n hx hb dX2_change_63 rfl (lv_at hl 2 rfl) ?_
      refine va_get (D := (dC, dI)) (ci := 2) (v := .ref al) (C := RX2) (T := TX2) (N := 4) hx hb hts hinX2 hown hK hP 0 rfl rfl 3 (by decide) (hts (.fieldLink RX2 9 "WrestleBookLaw$Sim" "all" "[[I") (by decide +kernel)) (fun _ h9 => h9) rfl dX2_change_64 ?_
      refine lv_iload_n hx hb dX2_change_67 rfl (lv_at hl 3 rfl) ?_
      refine rv_aald (k := w) hx hb hK hP 1 1 rfl rfl (show w < n by omega) (by omega) dX2_change_68 ?_
      refine lv_iconst (v := 0) hx hb dX2_change_69 (by decide) ?_
      refine rv_iald (k := 0) hx hb hK hP (2 + w) 0 (rl_get rfl (show w < n by omega)) rfl (by decide) (by decide) dX2_change_70 ?_
      refine rv_top (y := F 1 w) rfl ?_
      refine lv_isub hx hb dX2_change_71 ?_
      refine W.widen (k := 1) (n := 9) (by omega) (by omega) ?_
      exact W.iret (v := 3000 - (F 1 w)) hx hb hr (fun t ht hW => ⟨⟨_, (), rfl, (show 3000 - (F 1 w) = s_gain F w o vr from by unfold s_gain s_then; rw [← cl2 c_53]), trivial⟩, hS.F ht⟩) hS.2.2 dX2_change_72
  · refine lv_bipush (v := 100) hx hb dX2_change_44 (by decide) ?_
    refine lv_istore (lv' := [(5, .int 100), (4, .int (((s_wt F w) * ((vr * 500) - (s_exp F w o))) / 1000)), (0, .ref h), (1, .int (nI w)), (2, .int (nI o)), (3, .int vr)]) hx hb dX2_change_46 hl (by decide) rfl (fun ls hl => ?_)
    refine lv_iload hx hb dX2_change_48 (lv_at hl 0 rfl) ?_
    refine lv_sipush (v := 3000) hx hb dX2_change_50 (by decide) ?_
    refine lv_icmp_le (tgt := 61) hx hb dX2_change_53 (by decide) (fun c_53 => ?_) (fun c_53 => ?_)
    · refine lv_iload hx hb dX2_change_61 (lv_at hl 0 rfl) ?_
      refine lv_aload_n hx hb dX2_change_63 rfl (lv_at hl 2 rfl) ?_
      refine va_get (D := (dC, dI)) (ci := 2) (v := .ref al) (C := RX2) (T := TX2) (N := 4) hx hb hts hinX2 hown hK hP 0 rfl rfl 3 (by decide) (hts (.fieldLink RX2 9 "WrestleBookLaw$Sim" "all" "[[I") (by decide +kernel)) (fun _ h9 => h9) rfl dX2_change_64 ?_
      refine lv_iload_n hx hb dX2_change_67 rfl (lv_at hl 3 rfl) ?_
      refine rv_aald (k := w) hx hb hK hP 1 1 rfl rfl (show w < n by omega) (by omega) dX2_change_68 ?_
      refine lv_iconst (v := 0) hx hb dX2_change_69 (by decide) ?_
      refine rv_iald (k := 0) hx hb hK hP (2 + w) 0 (rl_get rfl (show w < n by omega)) rfl (by decide) (by decide) dX2_change_70 ?_
      refine rv_top (y := F 1 w) rfl ?_
      refine lv_isub hx hb dX2_change_71 ?_
      refine W.widen (k := 1) (n := 9) (by omega) (by omega) ?_
      exact W.iret (v := 100 - (F 1 w)) hx hb hr (fun t ht hW => ⟨⟨_, (), rfl, (show 100 - (F 1 w) = s_gain F w o vr from by unfold s_gain s_then; rw [← cl3 c_41]), trivial⟩, hS.F ht⟩) hS.2.2 dX2_change_72
    · exact absurd c_53 (by decide)

set_option maxHeartbeats 4000000 in
set_option maxRecDepth 100000 in
theorem c_X2_raise (l : Launch) (dC : Nat → ClassId) (dI : Nat → Nat → Nat) (cI : ClassId) (h al : Nat) (rw : Nat → Nat) (cA : ClassId) (n : Nat) (F : Nat → Nat → Int32) (ct : Nat → Int32) (sz : Nat) (w : Nat) (i_w : w < n) (vb : Int32) (hn : n ≤ 12) : Met l yX2_raise wsX2_raise ({ frames := 0, cells := 0, slots := 0, locals := 0 } : Room) (va_Pc [.ref h, .int (nI w), .int vb] (fun U => PV dC dI cI cA (wT h al rw cA cI n F ct) sz U)) (va_Qv (fun (_ : Unit) => True) (BW dC dI (va_A (wT h al rw cA cI n F ct) sz) (wT h al rw cA cI n (s_set F w (F 1 w + vb)) ct)) (va_A (wT h al rw cA cI n F ct) sz)) 0 0 (va_A (wT h al rw cA cI n F ct) sz) := by
  refine Met.ofW (cc := cX2_raise) (maxL := 3) (ret := none) (by decide) rfl ?_
  intro p e s m args below meth c s₁ B hml hv
  obtain ⟨rfl, hsz, hP, hK, hD0, hE⟩ := hv
  have hx := B.exec
  have hb := B.bytes
  have hr := B.returns
  have hts := atoms_spec (ws := wsX2_raise) B.pre
  have hown : s.vm.findClass RX2 = some m.cls := findClass_of_methodNamed B.named
  have hlocks := B.notSynchronized
  subst hsz
  have hD := hD0.self (sz := s.heap.size)
  generalize hAe : va_A (wT h al rw cA cI n F ct) s.heap.size = A at hD hE ⊢
  have hA : ∀ q : Nat, s.heap.size ≤ q → A q := fun q h9 => by rw [← hAe]; exact Or.inr h9
  have hS : va_S A s.heap s.heap [] := va_S.rf
  have hinX2 : ∀ w ∈ wsX20, w ∈ wsX2_raise := by decide +kernel
  have hl := lv_entry ([.ref h, .int (nI w), .int vb]) (n := 3) (Nat.le_of_ble_eq_true rfl)
  rw [lg_entry_eq]
  generalize (lg_sl ([.ref h, .int (nI w), .int vb]) ++ List.replicate (3 - (lg_sl ([.ref h, .int (nI w), .int vb])).length) Slot.unset).toArray = ls at hl ⊢
  have hl : lv_has ls 3 [(0, .ref h), (1, .int (nI w)), (2, .int vb)] := hl
  obtain ⟨H, hHe⟩ : ∃ H, H = s.heap := ⟨_, rfl⟩
  have hP : va_P (dC, dI) vwCl (wT h al rw cA cI n F ct) H := by rw [hHe]; exact hP
  have hS : va_S A s.heap H [] := by rw [hHe]; exact hS
  suffices h0 : W p l e (headSpec wsX2_raise ({ frames := 0, cells := 0, slots := 0, locals := 0 } : Room)).room s m ([.ref h, .int (nI w), .int vb] : List Value).toArray below meth c H [] 0 0 (MQ below (va_Qv (fun (_ : Unit) => True) (BW dC dI A (wT h al rw cA cI n (s_set F w (F 1 w + vb)) ct)) A) ([.ref h, .int (nI w), .int vb] : List Value).toArray s 0 0 A) (F0 m 0 ls []) from by have h9 := h0; rw [hHe] at h9; exact h9
  refine lv_aload_n hx hb dX2_raise_0 rfl (lv_at hl 0 rfl) ?_
  refine va_get (D := (dC, dI)) (ci := 2) (v := .ref al) (C := RX2) (T := TX2) (N := 4) hx hb hts hinX2 hown hK hP 0 rfl rfl 3 (by decide) (hts (.fieldLink RX2 9 "WrestleBookLaw$Sim" "all" "[[I") (by decide +kernel)) (fun _ h9 => h9) rfl dX2_raise_1 ?_
  refine lv_iload_n hx hb dX2_raise_4 rfl (lv_at hl 1 rfl) ?_
  refine rv_aald (k := w) hx hb hK hP 1 1 rfl rfl (show w < n by omega) (by omega) dX2_raise_5 ?_
  refine lv_iconst (v := 0) hx hb dX2_raise_6 (by decide) ?_
  refine lv_dup2_11 hx hb dX2_raise_7 rfl rfl ?_
  refine rv_iald (k := 0) hx hb hK hP (2 + w) 0 (rl_get rfl (show w < n by omega)) rfl (by decide) (by decide) dX2_raise_8 ?_
  refine rv_top (y := F 1 w) rfl ?_
  refine lv_iload_n hx hb dX2_raise_9 rfl (lv_at hl 2 rfl) ?_
  refine lv_iadd hx hb dX2_raise_10 ?_
  refine rv_rst (k := 0) hx hb hK (X := [(h, .inr (2, [.int (ct 0), .int (ct 1), .int (ct 2), .ref al])), (al, .inl (cA, n, .inr (.inr (.inr (.inr (ro rw))))))]) rfl hP hD hS 0 rfl (show w < n by omega) (by decide) dX2_raise_11 (fun H locs hP hD hS => ?_)
  have hP : va_P (dC, dI) vwCl (wT h al rw cA cI n (pu F 1 w ((F 1 w) + vb)) ct) H := hP
  have hD : va_D A (wT h al rw cA cI n (pu F 1 w ((F 1 w) + vb)) ct) := hD
  refine lv_aload_n hx hb dX2_raise_12 rfl (lv_at hl 0 rfl) ?_
  refine va_get (D := (dC, dI)) (ci := 2) (v := .ref al) (C := RX2) (T := TX2) (N := 4) hx hb hts hinX2 hown hK hP 0 rfl rfl 3 (by decide) (hts (.fieldLink RX2 9 "WrestleBookLaw$Sim" "all" "[[I") (by decide +kernel)) (fun _ h9 => h9) rfl dX2_raise_13 ?_
  refine lv_iload_n hx hb dX2_raise_16 rfl (lv_at hl 1 rfl) ?_
  refine rv_aald (k := w) hx hb hK hP 1 1 rfl rfl (show w < n by omega) (by omega) dX2_raise_17 ?_
  refine lv_iconst (v := 0) hx hb dX2_raise_18 (by decide) ?_
  refine rv_iald (k := 0) hx hb hK hP (2 + w) 0 (rl_get rfl (show w < n by omega)) rfl (by decide) (by decide) dX2_raise_19 ?_
  refine rv_top (y := (pu F 1 w ((F 1 w) + vb)) 1 w) rfl ?_
  refine rv_top (y := F 1 w + vb) (by simp [pu_app]) ?_
  refine lv_aload_n hx hb dX2_raise_20 rfl (lv_at hl 0 rfl) ?_
  refine va_get (D := (dC, dI)) (ci := 2) (v := .ref al) (C := RX2) (T := TX2) (N := 4) hx hb hts hinX2 hown hK hP 0 rfl rfl 3 (by decide) (hts (.fieldLink RX2 9 "WrestleBookLaw$Sim" "all" "[[I") (by decide +kernel)) (fun _ h9 => h9) rfl dX2_raise_21 ?_
  refine lv_iload_n hx hb dX2_raise_24 rfl (lv_at hl 1 rfl) ?_
  refine rv_aald (k := w) hx hb hK hP 1 1 rfl rfl (show w < n by omega) (by omega) dX2_raise_25 ?_
  refine lv_bipush (v := 6) hx hb dX2_raise_26 (by decide) ?_
  refine rv_iald (k := 6) hx hb hK hP (2 + w) 0 (rl_get rfl (show w < n by omega)) rfl (by decide) (by decide) dX2_raise_28 ?_
  refine rv_top (y := (pu F 1 w ((F 1 w) + vb)) 6 w) rfl ?_
  refine rv_top (y := F 6 w) (by simp [pu_app]) ?_
  refine lv_icmp_le (tgt := 49) hx hb dX2_raise_29 (by decide) (fun c_29 => ?_) (fun c_29 => ?_)
  · refine W.widen (k := 0) (n := 0) (by omega) (by omega) ?_
    have hP8 : va_P (dC, dI) vwCl (wT h al rw cA cI n (s_set F w (F 1 w + vb)) ct) H := by rw [raise_no c_29]; exact hP
    have hD8 : va_D A (wT h al rw cA cI n (s_set F w (F 1 w + vb)) ct) := by rw [raise_no c_29]; exact hD
    exact W.vret hx hb hr (fun t ht hW => ⟨⟨(), rfl, trivial, by rw [ht]; exact hP8, hD8⟩, hS.F ht⟩) hS.2.2 dX2_raise_49
  · refine lv_aload_n hx hb dX2_raise_32 rfl (lv_at hl 0 rfl) ?_
    refine va_get (D := (dC, dI)) (ci := 2) (v := .ref al) (C := RX2) (T := TX2) (N := 4) hx hb hts hinX2 hown hK hP 0 rfl rfl 3 (by decide) (hts (.fieldLink RX2 9 "WrestleBookLaw$Sim" "all" "[[I") (by decide +kernel)) (fun _ h9 => h9) rfl dX2_raise_33 ?_
    refine lv_iload_n hx hb dX2_raise_36 rfl (lv_at hl 1 rfl) ?_
    refine rv_aald (k := w) hx hb hK hP 1 1 rfl rfl (show w < n by omega) (by omega) dX2_raise_37 ?_
    refine lv_bipush (v := 6) hx hb dX2_raise_38 (by decide) ?_
    refine lv_aload_n hx hb dX2_raise_40 rfl (lv_at hl 0 rfl) ?_
    refine va_get (D := (dC, dI)) (ci := 2) (v := .ref al) (C := RX2) (T := TX2) (N := 4) hx hb hts hinX2 hown hK hP 0 rfl rfl 3 (by decide) (hts (.fieldLink RX2 9 "WrestleBookLaw$Sim" "all" "[[I") (by decide +kernel)) (fun _ h9 => h9) rfl dX2_raise_41 ?_
    refine lv_iload_n hx hb dX2_raise_44 rfl (lv_at hl 1 rfl) ?_
    refine rv_aald (k := w) hx hb hK hP 1 1 rfl rfl (show w < n by omega) (by omega) dX2_raise_45 ?_
    refine lv_iconst (v := 0) hx hb dX2_raise_46 (by decide) ?_
    refine rv_iald (k := 0) hx hb hK hP (2 + w) 0 (rl_get rfl (show w < n by omega)) rfl (by decide) (by decide) dX2_raise_47 ?_
    refine rv_top (y := (pu F 1 w ((F 1 w) + vb)) 1 w) rfl ?_
    refine rv_top (y := F 1 w + vb) (by simp [pu_app]) ?_
    refine rv_rst (k := 6) hx hb hK (X := [(h, .inr (2, [.int (ct 0), .int (ct 1), .int (ct 2), .ref al])), (al, .inl (cA, n, .inr (.inr (.inr (.inr (ro rw))))))]) rfl hP hD hS 0 rfl (show w < n by omega) (by decide) dX2_raise_48 (fun H locs hP hD hS => ?_)
    have hP : va_P (dC, dI) vwCl (wT h al rw cA cI n (pu (pu F 1 w ((F 1 w) + vb)) 6 w (F 1 w + vb)) ct) H := hP
    have hD : va_D A (wT h al rw cA cI n (pu (pu F 1 w ((F 1 w) + vb)) 6 w (F 1 w + vb)) ct) := hD
    refine W.widen (k := 0) (n := 0) (by omega) (by omega) ?_
    have hP8 : va_P (dC, dI) vwCl (wT h al rw cA cI n (s_set F w (F 1 w + vb)) ct) H := by rw [raise_yes c_29]; exact hP
    have hD8 : va_D A (wT h al rw cA cI n (s_set F w (F 1 w + vb)) ct) := by rw [raise_yes c_29]; exact hD
    exact W.vret hx hb hr (fun t ht hW => ⟨⟨(), rfl, trivial, by rw [ht]; exact hP8, hD8⟩, hS.F ht⟩) hS.2.2 dX2_raise_49

set_option maxHeartbeats 4000000 in
set_option maxRecDepth 100000 in
theorem c_X2_note (l : Launch) (dC : Nat → ClassId) (dI : Nat → Nat → Nat) (cI : ClassId) (h al : Nat) (rw : Nat → Nat) (cA : ClassId) (n : Nat) (F : Nat → Nat → Int32) (ct : Nat → Int32) (sz : Nat) (w : Nat) (i_w : w < n) (q : Nat) (hq : q ≤ 2) (hn : n ≤ 12) : Met l yX2_note wsX2_note ({ frames := 0, cells := 0, slots := 0, locals := 0 } : Room) (va_Pc [.ref h, .int (nI w), .int (nI q)] (fun U => PV dC dI cI cA (wT h al rw cA cI n F ct) sz U)) (va_Qv (fun (_ : Unit) => True) (BW dC dI (va_A (wT h al rw cA cI n F ct) sz) (wT h al rw cA cI n (s_note F w q) ct)) (va_A (wT h al rw cA cI n F ct) sz)) 0 0 (va_A (wT h al rw cA cI n F ct) sz) := by
  refine Met.ofW (cc := cX2_note) (maxL := 3) (ret := none) (by decide) rfl ?_
  intro p e s m args below meth c s₁ B hml hv
  obtain ⟨rfl, hsz, hP, hK, hD0, hE⟩ := hv
  have hx := B.exec
  have hb := B.bytes
  have hr := B.returns
  have hts := atoms_spec (ws := wsX2_note) B.pre
  have hown : s.vm.findClass RX2 = some m.cls := findClass_of_methodNamed B.named
  have hlocks := B.notSynchronized
  subst hsz
  have hD := hD0.self (sz := s.heap.size)
  generalize hAe : va_A (wT h al rw cA cI n F ct) s.heap.size = A at hD hE ⊢
  have hA : ∀ q : Nat, s.heap.size ≤ q → A q := fun q h9 => by rw [← hAe]; exact Or.inr h9
  have hS : va_S A s.heap s.heap [] := va_S.rf
  have hinX2 : ∀ w ∈ wsX20, w ∈ wsX2_note := by decide +kernel
  have hl := lv_entry ([.ref h, .int (nI w), .int (nI q)]) (n := 3) (Nat.le_of_ble_eq_true rfl)
  rw [lg_entry_eq]
  generalize (lg_sl ([.ref h, .int (nI w), .int (nI q)]) ++ List.replicate (3 - (lg_sl ([.ref h, .int (nI w), .int (nI q)])).length) Slot.unset).toArray = ls at hl ⊢
  have hl : lv_has ls 3 [(0, .ref h), (1, .int (nI w)), (2, .int (nI q))] := hl
  obtain ⟨H, hHe⟩ : ∃ H, H = s.heap := ⟨_, rfl⟩
  have hP : va_P (dC, dI) vwCl (wT h al rw cA cI n F ct) H := by rw [hHe]; exact hP
  have hS : va_S A s.heap H [] := by rw [hHe]; exact hS
  suffices h0 : W p l e (headSpec wsX2_note ({ frames := 0, cells := 0, slots := 0, locals := 0 } : Room)).room s m ([.ref h, .int (nI w), .int (nI q)] : List Value).toArray below meth c H [] 0 0 (MQ below (va_Qv (fun (_ : Unit) => True) (BW dC dI A (wT h al rw cA cI n (s_note F w q) ct)) A) ([.ref h, .int (nI w), .int (nI q)] : List Value).toArray s 0 0 A) (F0 m 0 ls []) from by have h9 := h0; rw [hHe] at h9; exact h9
  refine lv_aload_n hx hb dX2_note_0 rfl (lv_at hl 0 rfl) ?_
  refine va_get (D := (dC, dI)) (ci := 2) (v := .ref al) (C := RX2) (T := TX2) (N := 4) hx hb hts hinX2 hown hK hP 0 rfl rfl 3 (by decide) (hts (.fieldLink RX2 9 "WrestleBookLaw$Sim" "all" "[[I") (by decide +kernel)) (fun _ h9 => h9) rfl dX2_note_1 ?_
  refine lv_iload_n hx hb dX2_note_4 rfl (lv_at hl 1 rfl) ?_
  refine rv_aald (k := w) hx hb hK hP 1 1 rfl rfl (show w < n by omega) (by omega) dX2_note_5 ?_
  refine lv_iconst (v := 2) hx hb dX2_note_6 (by decide) ?_
  refine lv_dup2_11 hx hb dX2_note_7 rfl rfl ?_
  refine rv_iald (k := 2) hx hb hK hP (2 + w) 0 (rl_get rfl (show w < n by omega)) rfl (by decide) (by decide) dX2_note_8 ?_
  refine rv_top (y := F 2 w) rfl ?_
  refine lv_iload_n hx hb dX2_note_9 rfl (lv_at hl 2 rfl) ?_
  refine lv_iadd hx hb dX2_note_10 ?_
  refine rv_rst (k := 2) hx hb hK (X := [(h, .inr (2, [.int (ct 0), .int (ct 1), .int (ct 2), .ref al])), (al, .inl (cA, n, .inr (.inr (.inr (.inr (ro rw))))))]) rfl hP hD hS 0 rfl (show w < n by omega) (by decide) dX2_note_11 (fun H locs hP hD hS => ?_)
  have hP : va_P (dC, dI) vwCl (wT h al rw cA cI n (pu F 2 w ((F 2 w) + (nI q))) ct) H := hP
  have hD : va_D A (wT h al rw cA cI n (pu F 2 w ((F 2 w) + (nI q))) ct) := hD
  refine lv_aload_n hx hb dX2_note_12 rfl (lv_at hl 0 rfl) ?_
  refine va_get (D := (dC, dI)) (ci := 2) (v := .ref al) (C := RX2) (T := TX2) (N := 4) hx hb hts hinX2 hown hK hP 0 rfl rfl 3 (by decide) (hts (.fieldLink RX2 9 "WrestleBookLaw$Sim" "all" "[[I") (by decide +kernel)) (fun _ h9 => h9) rfl dX2_note_13 ?_
  refine lv_iload_n hx hb dX2_note_16 rfl (lv_at hl 1 rfl) ?_
  refine rv_aald (k := w) hx hb hK hP 1 1 rfl rfl (show w < n by omega) (by omega) dX2_note_17 ?_
  refine lv_iconst (v := 3) hx hb dX2_note_18 (by decide) ?_
  refine lv_dup2_11 hx hb dX2_note_19 rfl rfl ?_
  refine rv_iald (k := 3) hx hb hK hP (2 + w) 0 (rl_get rfl (show w < n by omega)) rfl (by decide) (by decide) dX2_note_20 ?_
  refine rv_top (y := (pu F 2 w ((F 2 w) + (nI q))) 3 w) rfl ?_
  refine lv_iconst (v := 1) hx hb dX2_note_21 (by decide) ?_
  refine lv_iadd hx hb dX2_note_22 ?_
  refine rv_top (y := F 3 w + 1) (by simp [pu_app]) ?_
  refine rv_rst (k := 3) hx hb hK (X := [(h, .inr (2, [.int (ct 0), .int (ct 1), .int (ct 2), .ref al])), (al, .inl (cA, n, .inr (.inr (.inr (.inr (ro rw))))))]) rfl hP hD hS 0 rfl (show w < n by omega) (by decide) dX2_note_23 (fun H locs hP hD hS => ?_)
  have hP : va_P (dC, dI) vwCl (wT h al rw cA cI n (pu (pu F 2 w ((F 2 w) + (nI q))) 3 w (F 3 w + 1)) ct) H := hP
  have hD : va_D A (wT h al rw cA cI n (pu (pu F 2 w ((F 2 w) + (nI q))) 3 w (F 3 w + 1)) ct) := hD
  refine lv_aload_n hx hb dX2_note_24 rfl (lv_at hl 0 rfl) ?_
  refine va_get (D := (dC, dI)) (ci := 2) (v := .ref al) (C := RX2) (T := TX2) (N := 4) hx hb hts hinX2 hown hK hP 0 rfl rfl 3 (by decide) (hts (.fieldLink RX2 9 "WrestleBookLaw$Sim" "all" "[[I") (by decide +kernel)) (fun _ h9 => h9) rfl dX2_note_25 ?_
  refine lv_iload_n hx hb dX2_note_28 rfl (lv_at hl 1 rfl) ?_
  refine rv_aald (k := w) hx hb hK hP 1 1 rfl rfl (show w < n by omega) (by omega) dX2_note_29 ?_
  refine lv_iconst (v := 4) hx hb dX2_note_30 (by decide) ?_
  refine lv_dup2_11 hx hb dX2_note_31 rfl rfl ?_
  refine rv_iald (k := 4) hx hb hK hP (2 + w) 0 (rl_get rfl (show w < n by omega)) rfl (by decide) (by decide) dX2_note_32 ?_
  refine rv_top (y := (pu (pu F 2 w ((F 2 w) + (nI q))) 3 w (F 3 w + 1)) 4 w) rfl ?_
  refine lv_iconst (v := 1) hx hb dX2_note_33 (by decide) ?_
  refine lv_iadd hx hb dX2_note_34 ?_
  refine rv_top (y := F 4 w + 1) (by simp [pu_app]) ?_
  refine rv_rst (k := 4) hx hb hK (X := [(h, .inr (2, [.int (ct 0), .int (ct 1), .int (ct 2), .ref al])), (al, .inl (cA, n, .inr (.inr (.inr (.inr (ro rw))))))]) rfl hP hD hS 0 rfl (show w < n by omega) (by decide) dX2_note_35 (fun H locs hP hD hS => ?_)
  have hP : va_P (dC, dI) vwCl (wT h al rw cA cI n (pu (pu (pu F 2 w ((F 2 w) + (nI q))) 3 w (F 3 w + 1)) 4 w (F 4 w + 1)) ct) H := hP
  have hD : va_D A (wT h al rw cA cI n (pu (pu (pu F 2 w ((F 2 w) + (nI q))) 3 w (F 3 w + 1)) 4 w (F 4 w + 1)) ct) := hD
  refine lv_aload_n hx hb dX2_note_36 rfl (lv_at hl 0 rfl) ?_
  refine va_get (D := (dC, dI)) (ci := 2) (v := .ref al) (C := RX2) (T := TX2) (N := 4) hx hb hts hinX2 hown hK hP 0 rfl rfl 3 (by decide) (hts (.fieldLink RX2 9 "WrestleBookLaw$Sim" "all" "[[I") (by decide +kernel)) (fun _ h9 => h9) rfl dX2_note_37 ?_
  refine lv_iload_n hx hb dX2_note_40 rfl (lv_at hl 1 rfl) ?_
  refine rv_aald (k := w) hx hb hK hP 1 1 rfl rfl (show w < n by omega) (by omega) dX2_note_41 ?_
  refine lv_iconst (v := 5) hx hb dX2_note_42 (by decide) ?_
  refine lv_iload_n hx hb dX2_note_43 rfl (lv_at hl 2 rfl) ?_
  refine lv_iconst (v := 2) hx hb dX2_note_44 (by decide) ?_
  refine rv_icmp_ge (tgt := 52) hx hb (a := q) (b := 2) (by omega) (by omega) dX2_note_45 (by decide) (fun c_45 => ?_) (fun c_45 => ?_)
  · refine lv_aload_n hx hb dX2_note_52 rfl (lv_at hl 0 rfl) ?_
    refine va_get (D := (dC, dI)) (ci := 2) (v := .ref al) (C := RX2) (T := TX2) (N := 4) hx hb hts hinX2 hown hK hP 0 rfl rfl 3 (by decide) (hts (.fieldLink RX2 9 "WrestleBookLaw$Sim" "all" "[[I") (by decide +kernel)) (fun _ h9 => h9) rfl dX2_note_53 ?_
    refine lv_iload_n hx hb dX2_note_56 rfl (lv_at hl 1 rfl) ?_
    refine rv_aald (k := w) hx hb hK hP 1 1 rfl rfl (show w < n by omega) (by omega) dX2_note_57 ?_
    refine lv_iconst (v := 5) hx hb dX2_note_58 (by decide) ?_
    refine rv_iald (k := 5) hx hb hK hP (2 + w) 0 (rl_get rfl (show w < n by omega)) rfl (by decide) (by decide) dX2_note_59 ?_
    refine rv_top (y := (pu (pu (pu F 2 w ((F 2 w) + (nI q))) 3 w (F 3 w + 1)) 4 w (F 4 w + 1)) 5 w) rfl ?_
    refine lv_iconst (v := 1) hx hb dX2_note_60 (by decide) ?_
    refine lv_iadd hx hb dX2_note_61 ?_
    refine rv_top (y := if q = 2 then F 5 w + 1 else 0) (by rw [if_pos (by omega)]; simp [pu_app]) ?_
    refine rv_rst (k := 5) hx hb hK (X := [(h, .inr (2, [.int (ct 0), .int (ct 1), .int (ct 2), .ref al])), (al, .inl (cA, n, .inr (.inr (.inr (.inr (ro rw))))))]) rfl hP hD hS 0 rfl (show w < n by omega) (by decide) dX2_note_62 (fun H locs hP hD hS => ?_)
    have hP : va_P (dC, dI) vwCl (wT h al rw cA cI n (pu (pu (pu (pu F 2 w ((F 2 w) + (nI q))) 3 w (F 3 w + 1)) 4 w (F 4 w + 1)) 5 w (if q = 2 then F 5 w + 1 else 0)) ct) H := hP
    have hD : va_D A (wT h al rw cA cI n (pu (pu (pu (pu F 2 w ((F 2 w) + (nI q))) 3 w (F 3 w + 1)) 4 w (F 4 w + 1)) 5 w (if q = 2 then F 5 w + 1 else 0)) ct) := hD
    refine W.widen (k := 0) (n := 0) (by omega) (by omega) ?_
    have hP8 : va_P (dC, dI) vwCl (wT h al rw cA cI n (s_note F w q) ct) H := hP
    have hD8 : va_D A (wT h al rw cA cI n (s_note F w q) ct) := hD
    exact W.vret hx hb hr (fun t ht hW => ⟨⟨(), rfl, trivial, by rw [ht]; exact hP8, hD8⟩, hS.F ht⟩) hS.2.2 dX2_note_63
  · refine lv_iconst (v := 0) hx hb dX2_note_48 (by decide) ?_
    refine rv_top (y := if q = 2 then F 5 w + 1 else 0) (by rw [if_neg (by omega)]) ?_
    refine lv_goto (tgt := 62) hx hb dX2_note_49 (by decide) ?_
    refine rv_rst (k := 5) hx hb hK (X := [(h, .inr (2, [.int (ct 0), .int (ct 1), .int (ct 2), .ref al])), (al, .inl (cA, n, .inr (.inr (.inr (.inr (ro rw))))))]) rfl hP hD hS 0 rfl (show w < n by omega) (by decide) dX2_note_62 (fun H locs hP hD hS => ?_)
    have hP : va_P (dC, dI) vwCl (wT h al rw cA cI n (pu (pu (pu (pu F 2 w ((F 2 w) + (nI q))) 3 w (F 3 w + 1)) 4 w (F 4 w + 1)) 5 w (if q = 2 then F 5 w + 1 else 0)) ct) H := hP
    have hD : va_D A (wT h al rw cA cI n (pu (pu (pu (pu F 2 w ((F 2 w) + (nI q))) 3 w (F 3 w + 1)) 4 w (F 4 w + 1)) 5 w (if q = 2 then F 5 w + 1 else 0)) ct) := hD
    refine W.widen (k := 0) (n := 0) (by omega) (by omega) ?_
    have hP8 : va_P (dC, dI) vwCl (wT h al rw cA cI n (s_note F w q) ct) H := hP
    have hD8 : va_D A (wT h al rw cA cI n (s_note F w q) ct) := hD
    exact W.vret hx hb hr (fun t ht hW => ⟨⟨(), rfl, trivial, by rw [ht]; exact hP8, hD8⟩, hS.F ht⟩) hS.2.2 dX2_note_63

set_option maxHeartbeats 4000000 in
set_option maxRecDepth 100000 in
theorem c_X2_off (l : Launch) (dC : Nat → ClassId) (dI : Nat → Nat → Nat) (cI : ClassId) (h al : Nat) (rw : Nat → Nat) (cA : ClassId) (n : Nat) (F : Nat → Nat → Int32) (ct : Nat → Int32) (sz : Nat) (a : Nat) (i_a : a < n) (b : Nat) (i_b : b < n) (hn : n ≤ 12) (hR : okR n F) : Met l yX2_off wsX2_off ({ frames := 2, cells := 1, slots := 9, locals := 52 } : Room) (va_Pc [.ref h, .int (nI a), .int (nI b)] (fun U => PT dC dI cI cA (wT h al rw cA cI n F ct) sz U)) (va_Qi (fun r (_ : Unit) => r = s_off F a b) (fun _ _ => True) (fun q : Nat => sz ≤ q)) 1 9 (fun q : Nat => sz ≤ q) := by
  refine Met.ofW (cc := cX2_off) (maxL := 4) (ret := (some .int)) (by decide) rfl ?_
  intro p e s m args below meth c s₁ B hml hv
  obtain ⟨rfl, hsz, hP0, hK, hE⟩ := hv
  have hx := B.exec
  have hb := B.bytes
  have hr := B.returns
  have hts := atoms_spec (ws := wsX2_off) B.pre
  have hown : s.vm.findClass RX2 = some m.cls := findClass_of_methodNamed B.named
  have hlocks := B.notSynchronized
  subst hsz
  have hAn : ∀ q : Nat, q < s.heap.size → ¬ (fun q : Nat => s.heap.size ≤ q) q := fun q h9 => Nat.not_le.mpr h9
  have hA : ∀ q : Nat, s.heap.size ≤ q → (fun q : Nat => s.heap.size ≤ q) q := fun q h9 => h9
  generalize (fun q : Nat => s.heap.size ≤ q) = A at hA hAn hE ⊢
  have hP := hP0
  have hS : va_S A s.heap s.heap [] := va_S.rf
  have hinX2 : ∀ w ∈ wsX20, w ∈ wsX2_off := by decide +kernel
  have hl := lv_entry ([.ref h, .int (nI a), .int (nI b)]) (n := 4) (Nat.le_of_ble_eq_true rfl)
  rw [lg_entry_eq]
  generalize (lg_sl ([.ref h, .int (nI a), .int (nI b)]) ++ List.replicate (4 - (lg_sl ([.ref h, .int (nI a), .int (nI b)])).length) Slot.unset).toArray = ls at hl ⊢
  have hl : lv_has ls 4 [(0, .ref h), (1, .int (nI a)), (2, .int (nI b))] := hl
  obtain ⟨H, hHe⟩ : ∃ H, H = s.heap := ⟨_, rfl⟩
  have hP : va_P (dC, dI) vwCl (wT h al rw cA cI n F ct) H := by rw [hHe]; exact hP
  have hS : va_S A s.heap H [] := by rw [hHe]; exact hS
  suffices h0 : W p l e (headSpec wsX2_off ({ frames := 2, cells := 1, slots := 9, locals := 52 } : Room)).room s m ([.ref h, .int (nI a), .int (nI b)] : List Value).toArray below meth c H [] 0 0 (MQ below (va_Qi (fun r (_ : Unit) => r = s_off F a b) (fun _ _ => True) A) ([.ref h, .int (nI a), .int (nI b)] : List Value).toArray s 1 9 A) (F0 m 0 ls []) from by have h9 := h0; rw [hHe] at h9; exact h9
  refine lv_aload_n hx hb dX2_off_0 rfl (lv_at hl 0 rfl) ?_
  refine lv_iload_n hx hb dX2_off_1 rfl (lv_at hl 1 rfl) ?_
  refine lv_iload_n hx hb dX2_off_2 rfl (lv_at hl 2 rfl) ?_
  refine va_calli (va_runV (As := [.int (nI a), .int (nI b)]) (rest := []) ⟨hx, hb, hml, hown, hts⟩ (c_X2_expected l dC dI cI h al rw cA n F ct H.size a (show a < n by omega) b (show b < n by omega) hn hR) (cwV 2 hts gX2_off_X2_expected rfl rfl rfl (by decide +kernel) ⟨Nat.le_of_ble_eq_true rfl, Nat.le_of_ble_eq_true rfl⟩) ⟨PT.blind, va_recv hK hP (ci := 2) (q0 := 0) rfl rfl, fun U hU hW => ⟨rfl, PT.go hP hK hE hS hA hU hW⟩⟩ rfl rfl hl.1 rfl (lv_room (Nat.le_of_ble_eq_true rfl)) dX2_off_3 ⟨(by show _ ≤ 1; omega), (by show _ ≤ 9; omega)⟩) hS (fun q h8 h9 => absurd h9 (Nat.not_le.mpr h8)) (fun q h9 => hA q (Nat.le_trans hS.1 h9)) (fun r u9 t9 H locs ht9 hvm9 hw9 hB9 hz9 hk9 hS => ?_)
  have hP := P_new hP hk9
  have hw9 : r = s_exp F a b := hw9
  subst hw9
  refine lv_istore_n (lv' := [(3, .int (s_exp F a b)), (0, .ref h), (1, .int (nI a)), (2, .int (nI b))]) hx hb dX2_off_6 rfl hl (by decide) rfl (fun ls hl => ?_)
  refine lv_iload_n hx hb dX2_off_7 rfl (lv_at hl 0 rfl) ?_
  refine lv_sipush (v := 500) hx hb dX2_off_8 (by decide) ?_
  refine lv_icmp_le (tgt := 22) hx hb dX2_off_11 (by decide) (fun c_11 => ?_) (fun c_11 => ?_)
  · refine lv_sipush (v := 500) hx hb dX2_off_22 (by decide) ?_
    refine lv_iload_n hx hb dX2_off_25 rfl (lv_at hl 0 rfl) ?_
    refine lv_isub hx hb dX2_off_26 ?_
    refine W.widen (k := 1) (n := 9) (by omega) (by omega) ?_
    exact W.iret (v := 500 - (s_exp F a b)) hx hb hr (fun t ht hW => ⟨⟨_, (), rfl, (show 500 - (s_exp F a b) = s_off F a b from by exact off_le hR i_a i_b c_11), trivial⟩, hS.F ht⟩) hS.2.2 dX2_off_27
  · refine lv_iload_n hx hb dX2_off_14 rfl (lv_at hl 0 rfl) ?_
    refine lv_sipush (v := 500) hx hb dX2_off_15 (by decide) ?_
    refine lv_isub hx hb dX2_off_18 ?_
    refine lv_goto (tgt := 27) hx hb dX2_off_19 (by decide) ?_
    refine W.widen (k := 1) (n := 9) (by omega) (by omega) ?_
    exact W.iret (v := (s_exp F a b) - 500) hx hb hr (fun t ht hW => ⟨⟨_, (), rfl, (show (s_exp F a b) - 500 = s_off F a b from by exact off_gt hR i_a i_b c_11), trivial⟩, hS.F ht⟩) hS.2.2 dX2_off_27

set_option maxHeartbeats 4000000 in
set_option maxRecDepth 100000 in
theorem c_X2_highest (l : Launch) (dC : Nat → ClassId) (dI : Nat → Nat → Nat) (cI : ClassId) (h al : Nat) (rw : Nat → Nat) (cA : ClassId) (n : Nat) (F : Nat → Nat → Int32) (ct : Nat → Int32) (sz : Nat) (hn : n ≤ 12) : Met l yX2_highest wsX2_highest ({ frames := 1, cells := 0, slots := 0, locals := 13 } : Room) (va_Pc [.ref h] (fun U => PT dC dI cI cA (wT h al rw cA cI n F ct) sz U)) (va_Qi (fun r (_ : Unit) => r = s_hi n F) (fun _ _ => True) (fun q : Nat => sz ≤ q)) 0 0 (fun q : Nat => sz ≤ q) := by
  refine Met.ofW (cc := cX2_highest) (maxL := 6) (ret := (some .int)) (by decide) rfl ?_
  intro p e s m args below meth c s₁ B hml hv
  obtain ⟨rfl, hsz, hP0, hK, hE⟩ := hv
  have hx := B.exec
  have hb := B.bytes
  have hr := B.returns
  have hts := atoms_spec (ws := wsX2_highest) B.pre
  have hown : s.vm.findClass RX2 = some m.cls := findClass_of_methodNamed B.named
  have hlocks := B.notSynchronized
  subst hsz
  have hAn : ∀ q : Nat, q < s.heap.size → ¬ (fun q : Nat => s.heap.size ≤ q) q := fun q h9 => Nat.not_le.mpr h9
  have hA : ∀ q : Nat, s.heap.size ≤ q → (fun q : Nat => s.heap.size ≤ q) q := fun q h9 => h9
  generalize (fun q : Nat => s.heap.size ≤ q) = A at hA hAn hE ⊢
  have hP := hP0
  have hS : va_S A s.heap s.heap [] := va_S.rf
  have hinX2 : ∀ w ∈ wsX20, w ∈ wsX2_highest := by decide +kernel
  have hl := lv_entry ([.ref h]) (n := 6) (Nat.le_of_ble_eq_true rfl)
  rw [lg_entry_eq]
  generalize (lg_sl ([.ref h]) ++ List.replicate (6 - (lg_sl ([.ref h])).length) Slot.unset).toArray = ls at hl ⊢
  have hl : lv_has ls 6 [(0, .ref h)] := hl
  obtain ⟨H, hHe⟩ : ∃ H, H = s.heap := ⟨_, rfl⟩
  have hP : va_P (dC, dI) vwCl (wT h al rw cA cI n F ct) H := by rw [hHe]; exact hP
  have hS : va_S A s.heap H [] := by rw [hHe]; exact hS
  suffices h0 : W p l e (headSpec wsX2_highest ({ frames := 1, cells := 0, slots := 0, locals := 13 } : Room)).room s m ([.ref h] : List Value).toArray below meth c H [] 0 0 (MQ below (va_Qi (fun r (_ : Unit) => r = s_hi n F) (fun _ _ => True) A) ([.ref h] : List Value).toArray s 0 0 A) (F0 m 0 ls []) from by have h9 := h0; rw [hHe] at h9; exact h9
  refine lv_iconst (v := 0) hx hb dX2_highest_0 (by decide) ?_
  refine lv_istore_n (lv' := [(1, .int 0), (0, .ref h)]) hx hb dX2_highest_1 rfl hl (by decide) rfl (fun ls hl => ?_)
  refine lv_aload_n hx hb dX2_highest_2 rfl (lv_at hl 1 rfl) ?_
  refine va_get (D := (dC, dI)) (ci := 2) (v := .ref al) (C := RX2) (T := TX2) (N := 4) hx hb hts hinX2 hown hK hP 0 rfl rfl 3 (by decide) (hts (.fieldLink RX2 9 "WrestleBookLaw$Sim" "all" "[[I") (by decide +kernel)) (fun _ h9 => h9) rfl dX2_highest_3 ?_
  refine lv_astore_n (lv' := [(2, .ref al), (1, .int 0), (0, .ref h)]) hx hb dX2_highest_6 rfl hl (by decide) rfl (fun ls hl => ?_)
  refine lv_aload_n hx hb dX2_highest_7 rfl (lv_at hl 0 rfl) ?_
  refine va_alen hx hb hK hP 1 1 rfl rfl (v := nI n) rfl dX2_highest_8 ?_
  refine lv_istore_n (lv' := [(3, .int (nI n)), (2, .ref al), (1, .int 0), (0, .ref h)]) hx hb dX2_highest_9 rfl hl (by decide) rfl (fun ls hl => ?_)
  refine lv_iconst (v := 0) hx hb dX2_highest_10 (by decide) ?_
  refine lv_istore (lv' := [(4, .int 0), (3, .int (nI n)), (2, .ref al), (1, .int 0), (0, .ref h)]) hx hb dX2_highest_11 hl (by decide) rfl (fun ls hl => ?_)
  have L_13 : ∀ (k i : Nat) (x1 : Int32), i + k = n → x1 = s_hiU F i → ∀ (H : Heap) (locs : List Loc), va_S A s.heap H locs → ∀ (ls : Array Slot), lv_has ls 6 [(4, .int (nI i)), (3, .int (nI n)), (2, .ref al), (1, .int x1), (0, .ref h)] → W p l e (headSpec wsX2_highest ({ frames := 1, cells := 0, slots := 0, locals := 13 } : Room)).room s m ([.ref h] : List Value).toArray below meth c H locs 0 0 (MQ below (va_Qi (fun r (_ : Unit) => r = s_hi n F) (fun _ _ => True) A) ([.ref h] : List Value).toArray s 0 0 A) (F0 m 13 ls []) := by
    intro k
    induction k with
    | zero =>
      intro i x1 e_i hx1 H locs hS ls hl
      have hP := keepS hP0 hAn hS
      refine lv_iload hx hb dX2_highest_13 (lv_at hl 0 rfl) ?_
      refine lv_iload_n hx hb dX2_highest_15 rfl (lv_at hl 1 rfl) ?_
      refine rv_icmp_ge (tgt := 40) hx hb (a := i) (b := n) (by omega) (by omega) dX2_highest_16 (by decide) (fun c_16 => ?_) (fun c_16 => ?_)
      · refine lv_iload_n hx hb dX2_highest_40 rfl (lv_at hl 3 rfl) ?_
        refine W.widen (k := 0) (n := 0) (by omega) (by omega) ?_
        exact W.iret (v := x1) hx hb hr (fun t ht hW => ⟨⟨_, (), rfl, (show x1 = s_hi n F from by rw [hx1, show i = n by omega]; rfl), trivial⟩, hS.F ht⟩) hS.2.2 dX2_highest_41
      · exact absurd c_16 (by omega)
    | succ k ih_13 =>
      intro i x1 e_i hx1 H locs hS ls hl
      have hP := keepS hP0 hAn hS
      refine lv_iload hx hb dX2_highest_13 (lv_at hl 0 rfl) ?_
      refine lv_iload_n hx hb dX2_highest_15 rfl (lv_at hl 1 rfl) ?_
      refine rv_icmp_ge (tgt := 40) hx hb (a := i) (b := n) (by omega) (by omega) dX2_highest_16 (by decide) (fun c_16 => ?_) (fun c_16 => ?_)
      · exact absurd c_16 (by omega)
      · refine lv_aload_n hx hb dX2_highest_19 rfl (lv_at hl 2 rfl) ?_
        refine lv_iload hx hb dX2_highest_20 (lv_at hl 0 rfl) ?_
        refine rv_aald (k := i) hx hb hK hP 1 1 rfl rfl (show i < n by omega) (by omega) dX2_highest_22 ?_
        refine lv_astore (lv' := [(5, .ref (rw i)), (4, .int (nI i)), (3, .int (nI n)), (2, .ref al), (1, .int x1), (0, .ref h)]) hx hb dX2_highest_23 hl (by decide) rfl (fun ls hl => ?_)
        refine lv_iload_n hx hb dX2_highest_25 rfl (lv_at hl 4 rfl) ?_
        refine lv_aload hx hb dX2_highest_26 (lv_at hl 0 rfl) ?_
        refine lv_iconst (v := 0) hx hb dX2_highest_28 (by decide) ?_
        refine rv_iald (k := 0) hx hb hK hP (2 + i) 0 (rl_get rfl (show i < n by omega)) rfl (by decide) (by decide) dX2_highest_29 ?_
        refine rv_top (y := F 1 i) rfl ?_
        refine va_mmax hx hb (hml.trans hl.1.symm) hown (hts (.methodLink RX2 57 Lib.Math.max.name) (by decide +kernel)) (hts (.static Lib.Math.max.name) (by decide +kernel)) (hts (.initialized "java/lang/Math") (by decide +kernel)) (hts (.code Lib.Math.max.name Lib.Math.max.code 2 (some .int)) (by decide +kernel)) (Nat.le_of_ble_eq_true rfl) (Nat.le_of_ble_eq_true rfl) (Nat.zero_le _) (Nat.zero_le _) dX2_highest_30 ?_
        refine lv_istore_n (lv' := [(1, .int (if x1 < (F 1 i) then (F 1 i) else x1)), (5, .ref (rw i)), (4, .int (nI i)), (3, .int (nI n)), (2, .ref al), (0, .ref h)]) hx hb dX2_highest_33 rfl hl (by decide) rfl (fun ls hl => ?_)
        refine lv_iinc (v := nI (i + 1)) (lv' := [(4, .int (nI (i + 1))), (1, .int (if x1 < (F 1 i) then (F 1 i) else x1)), (5, .ref (rw i)), (3, .int (nI n)), (2, .ref al), (0, .ref h)]) hx hb dX2_highest_34 hl (k := 2) rfl (nI_add i 1) (by decide) rfl (fun ls hl => ?_)
        refine lv_goto (tgt := 13) hx hb dX2_highest_37 (by decide) ?_
        exact ih_13 (i + 1) (if x1 < (F 1 i) then (F 1 i) else x1) (by omega) (by rw [hx1]; rfl) _ _ hS ls (lv_sub hl [0, 3, 4, 1, 5] rfl)
  exact L_13 n 0 0 (by omega) rfl _ _ hS ls (lv_sub hl [0, 1, 2, 3, 4] rfl)
