/-! State, readers -/
set_option maxHeartbeats 4000000 in
set_option maxRecDepth 100000 in
theorem c_X2_weight (l : Launch) (dC : Nat → ClassId) (dI : Nat → Nat → Nat) (cI : ClassId) (h : Nat) (ad : Nat → Nat) (n : Nat) (F : Nat → Nat → Int32) (ct : Nat → Int32) (w : Nat) (i_w : w < n) (hn : n ≤ 12) : Met l yX2_weight wsX2_weight ({ frames := 0, cells := 0, slots := 0, locals := 0 } : Room) (va_Pc [.ref h, .int (nI w)] (fun U => PR dC dI cI (wS h ad cI n F ct) U)) (vp_Si (fun r => r = s_wt F w)) 0 0 (fun _ => False) := by
  refine Met.ofW (cc := cX2_weight) (maxL := 2) (ret := (some .int)) (by decide) rfl ?_
  intro p e s m args below meth c s₁ B hml hv
  obtain ⟨rfl, hP, hK, hE⟩ := hv
  have hx := B.exec
  have hb := B.bytes
  have hr := B.returns
  have hts := atoms_spec (ws := wsX2_weight) B.pre
  have hown : s.vm.findClass RX2 = some m.cls := findClass_of_methodNamed B.named
  have hlocks := B.notSynchronized
  have hS : va_S (fun _ => False) s.heap s.heap [] := va_S.rf
  have hinX2 : ∀ w ∈ wsX20, w ∈ wsX2_weight := by decide +kernel
  have hl := lv_entry ([.ref h, .int (nI w)]) (n := 2) (Nat.le_of_ble_eq_true rfl)
  rw [lg_entry_eq]
  generalize (lg_sl ([.ref h, .int (nI w)]) ++ List.replicate (2 - (lg_sl ([.ref h, .int (nI w)])).length) Slot.unset).toArray = ls at hl ⊢
  have hl : lv_has ls 2 [(0, .ref h), (1, .int (nI w))] := hl
  refine lv_aload_n hx hb dX2_weight_0 rfl (lv_at hl 0 rfl) ?_
  refine va_get (D := (dC, dI)) (ci := 2) (v := .ref (ad 3)) (C := RX2) (T := TX2) (N := 11) hx hb hts hinX2 hown hK hP 0 rfl rfl 7 (by decide) (hts (.fieldLink RX2 21 "WrestleBookModel$State" "fought" "[I") (by decide +kernel)) (fun _ h9 => h9) rfl dX2_weight_1 ?_
  refine lv_iload_n hx hb dX2_weight_4 rfl (lv_at hl 1 rfl) ?_
  refine rv_iald (k := w) hx hb hK hP 4 0 rfl rfl (show w < 12 by omega) (by decide) dX2_weight_5 ?_
  refine lv_bipush (v := 10) hx hb dX2_weight_6 (by decide) ?_
  refine lv_icmp_ge (tgt := 16) hx hb dX2_weight_8 (by decide) (fun c_8 => ?_) (fun c_8 => ?_)
  · refine lv_aload_n hx hb dX2_weight_16 rfl (lv_at hl 0 rfl) ?_
    refine va_get (D := (dC, dI)) (ci := 2) (v := .ref (ad 1)) (C := RX2) (T := TX2) (N := 11) hx hb hts hinX2 hown hK hP 0 rfl rfl 4 (by decide) (hts (.fieldLink RX2 9 "WrestleBookModel$State" "rating" "[I") (by decide +kernel)) (fun _ h9 => h9) rfl dX2_weight_17 ?_
    refine lv_iload_n hx hb dX2_weight_20 rfl (lv_at hl 1 rfl) ?_
    refine rv_iald (k := w) hx hb hK hP 2 0 rfl rfl (show w < 12 by omega) (by decide) dX2_weight_21 ?_
    refine lv_sipush (v := 2000) hx hb dX2_weight_22 (by decide) ?_
    refine lv_icmp_lt (tgt := 33) hx hb dX2_weight_25 (by decide) (fun c_25 => ?_) (fun c_25 => ?_)
    · refine lv_bipush (v := 20) hx hb dX2_weight_33 (by decide) ?_
      exact W.iret (v := 20) hx hb hr (fun t ht hW => ⟨_, rfl, (show 20 = s_wt F w from by simp [s_wt, c_8, c_25]), ht⟩) hS.2.2 dX2_weight_35
    · refine lv_bipush (v := 10) hx hb dX2_weight_28 (by decide) ?_
      refine lv_goto (tgt := 35) hx hb dX2_weight_30 (by decide) ?_
      exact W.iret (v := 10) hx hb hr (fun t ht hW => ⟨_, rfl, (show 10 = s_wt F w from by simp [s_wt, c_8, c_25]), ht⟩) hS.2.2 dX2_weight_35
  · refine lv_bipush (v := 40) hx hb dX2_weight_11 (by decide) ?_
    refine lv_goto (tgt := 35) hx hb dX2_weight_13 (by decide) ?_
    exact W.iret (v := 40) hx hb hr (fun t ht hW => ⟨_, rfl, (show 40 = s_wt F w from by simp [s_wt, c_8]), ht⟩) hS.2.2 dX2_weight_35

set_option maxHeartbeats 4000000 in
set_option maxRecDepth 100000 in
theorem c_X2_expected (l : Launch) (dC : Nat → ClassId) (dI : Nat → Nat → Nat) (cI : ClassId) (h : Nat) (ad : Nat → Nat) (n : Nat) (F : Nat → Nat → Int32) (ct : Nat → Int32) (a : Nat) (i_a : a < n) (b : Nat) (i_b : b < n) (hn : n ≤ 12) (hR : okR n F) : Met l yX2_expected wsX2_expected ({ frames := 1, cells := 0, slots := 0, locals := 14 } : Room) (va_Pc [.ref h, .int (nI a), .int (nI b)] (fun U => PR dC dI cI (wS h ad cI n F ct) U)) (vp_Si (fun r => r = s_exp F a b)) 0 0 (fun _ => False) := by
  refine Met.ofW (cc := cX2_expected) (maxL := 6) (ret := (some .int)) (by decide) rfl ?_
  intro p e s m args below meth c s₁ B hml hv
  obtain ⟨rfl, hP, hK, hE⟩ := hv
  have hx := B.exec
  have hb := B.bytes
  have hr := B.returns
  have hts := atoms_spec (ws := wsX2_expected) B.pre
  have hown : s.vm.findClass RX2 = some m.cls := findClass_of_methodNamed B.named
  have hlocks := B.notSynchronized
  have hS : va_S (fun _ => False) s.heap s.heap [] := va_S.rf
  have hinX2 : ∀ w ∈ wsX20, w ∈ wsX2_expected := by decide +kernel
  obtain ⟨⟨tE, hzE, htE⟩, ⟨tT, hzT, htT⟩, -⟩ := id hE
  have hl := lv_entry ([.ref h, .int (nI a), .int (nI b)]) (n := 6) (Nat.le_of_ble_eq_true rfl)
  rw [lg_entry_eq]
  generalize (lg_sl ([.ref h, .int (nI a), .int (nI b)]) ++ List.replicate (6 - (lg_sl ([.ref h, .int (nI a), .int (nI b)])).length) Slot.unset).toArray = ls at hl ⊢
  have hl : lv_has ls 6 [(0, .ref h), (1, .int (nI a)), (2, .int (nI b))] := hl
  have hm : mD (dA F a b) ≤ 800 := mD_le _
  refine lv_sipush (v := 800) hx hb dX2_expected_0 (by decide) ?_
  refine lv_aload_n hx hb dX2_expected_3 rfl (lv_at hl 0 rfl) ?_
  refine va_get (D := (dC, dI)) (ci := 2) (v := .ref (ad 1)) (C := RX2) (T := TX2) (N := 11) hx hb hts hinX2 hown hK hP 0 rfl rfl 4 (by decide) (hts (.fieldLink RX2 9 "WrestleBookModel$State" "rating" "[I") (by decide +kernel)) (fun _ h9 => h9) rfl dX2_expected_4 ?_
  refine lv_iload_n hx hb dX2_expected_7 rfl (lv_at hl 1 rfl) ?_
  refine rv_iald (k := a) hx hb hK hP 2 0 rfl rfl (show a < 12 by omega) (by decide) dX2_expected_8 ?_
  refine lv_aload_n hx hb dX2_expected_9 rfl (lv_at hl 0 rfl) ?_
  refine va_get (D := (dC, dI)) (ci := 2) (v := .ref (ad 1)) (C := RX2) (T := TX2) (N := 11) hx hb hts hinX2 hown hK hP 0 rfl rfl 4 (by decide) (hts (.fieldLink RX2 9 "WrestleBookModel$State" "rating" "[I") (by decide +kernel)) (fun _ h9 => h9) rfl dX2_expected_10 ?_
  refine lv_iload_n hx hb dX2_expected_13 rfl (lv_at hl 2 rfl) ?_
  refine rv_iald (k := b) hx hb hK hP 2 0 rfl rfl (show b < 12 by omega) (by decide) dX2_expected_14 ?_
  refine lv_isub hx hb dX2_expected_15 ?_
  refine va_mabs hx hb (hml.trans hl.1.symm) hown (hts (.methodLink RX2 56 Lib.Math.abs.name) (by decide +kernel)) (hts (.static Lib.Math.abs.name) (by decide +kernel)) (hts (.initialized "java/lang/Math") (by decide +kernel)) (hts (.code Lib.Math.abs.name Lib.Math.abs.code 1 (some .int)) (by decide +kernel)) (Nat.le_of_ble_eq_true rfl) (Nat.le_of_ble_eq_true rfl) (Nat.zero_le _) (Nat.zero_le _) dX2_expected_16 ?_
  refine rv_top (y := nI (dA F a b)) (hR.abs i_a i_b).1 ?_
  refine va_mmin hx hb (hml.trans hl.1.symm) hown (hts (.methodLink RX2 62 Lib.Math.min.name) (by decide +kernel)) (hts (.static Lib.Math.min.name) (by decide +kernel)) (hts (.initialized "java/lang/Math") (by decide +kernel)) (hts (.code Lib.Math.min.name Lib.Math.min.code 2 (some .int)) (by decide +kernel)) (Nat.le_of_ble_eq_true rfl) (Nat.le_of_ble_eq_true rfl) (Nat.zero_le _) (Nat.zero_le _) dX2_expected_19 ?_
  refine rv_top (y := nI (mD (dA F a b))) (mD_min2 (hR.abs i_a i_b).2) ?_
  refine lv_istore_n (lv' := [(3, .int (nI (mD (dA F a b)))), (0, .ref h), (1, .int (nI a)), (2, .int (nI b))]) hx hb dX2_expected_22 rfl hl (by decide) rfl (fun ls hl => ?_)
  refine lv_iload_n hx hb dX2_expected_23 rfl (lv_at hl 0 rfl) ?_
  refine lv_bipush (v := 100) hx hb dX2_expected_24 (by decide) ?_
  refine lv_idiv hx hb dX2_expected_26 (by decide) ?_
  refine rv_top (y := nI (mD (dA F a b) / 100)) (pk_div (d := 100) (by omega) (by decide) (by decide)) ?_
  refine lv_istore (lv' := [(4, .int (nI (mD (dA F a b) / 100))), (3, .int (nI (mD (dA F a b)))), (0, .ref h), (1, .int (nI a)), (2, .int (nI b))]) hx hb dX2_expected_27 hl (by decide) rfl (fun ls hl => ?_)
  refine va_getsN hx hb hzT hS hown (va_Nw.use rfl (hE.2.2.1 (.fieldLinkNest RX2 66 "WrestleBookModel" "TABLE" "[I" "WrestleBookModel") (by decide +kernel))) (fun _ h9 => h9) dX2_expected_29 ?_
  refine lv_iload hx hb dX2_expected_32 (lv_at hl 0 rfl) ?_
  refine rv_ti (k := (mD (dA F a b) / 100)) hx hb htT hS (show mD (dA F a b) / 100 < 9 by omega) n9 dX2_expected_34 ?_
  refine lv_iload_n hx hb dX2_expected_35 rfl (lv_at hl 1 rfl) ?_
  refine lv_sipush (v := 800) hx hb dX2_expected_36 (by decide) ?_
  refine rv_icmp_ne (tgt := 46) hx hb (a := (mD (dA F a b))) (b := 800) (by omega) (by omega) dX2_expected_39 (by decide) (fun c_39 => ?_) (fun c_39 => ?_)
  · refine va_getsN hx hb hzT hS hown (va_Nw.use rfl (hE.2.2.1 (.fieldLinkNest RX2 66 "WrestleBookModel" "TABLE" "[I" "WrestleBookModel") (by decide +kernel))) (fun _ h9 => h9) dX2_expected_46 ?_
    refine lv_iload hx hb dX2_expected_49 (lv_at hl 0 rfl) ?_
    refine lv_iconst (v := 1) hx hb dX2_expected_51 (by decide) ?_
    refine lv_iadd hx hb dX2_expected_52 ?_
    refine rv_top (y := nI (mD (dA F a b) / 100 + 1)) (nI_1 _) ?_
    refine rv_ti (k := (mD (dA F a b) / 100 + 1)) hx hb htT hS (show mD (dA F a b) / 100 + 1 < 9 by omega) n9 dX2_expected_53 ?_
    refine va_getsN hx hb hzT hS hown (va_Nw.use rfl (hE.2.2.1 (.fieldLinkNest RX2 66 "WrestleBookModel" "TABLE" "[I" "WrestleBookModel") (by decide +kernel))) (fun _ h9 => h9) dX2_expected_54 ?_
    refine lv_iload hx hb dX2_expected_57 (lv_at hl 0 rfl) ?_
    refine rv_ti (k := (mD (dA F a b) / 100)) hx hb htT hS (show mD (dA F a b) / 100 < 9 by omega) n9 dX2_expected_59 ?_
    refine lv_isub hx hb dX2_expected_60 ?_
    refine lv_iload_n hx hb dX2_expected_61 rfl (lv_at hl 1 rfl) ?_
    refine lv_bipush (v := 100) hx hb dX2_expected_62 (by decide) ?_
    refine lv_irem hx hb dX2_expected_64 (by decide) ?_
    refine rv_top (y := nI (mD (dA F a b) % 100)) (pk_rem (d := 100) (by omega) (by decide) (by decide)) ?_
    refine lv_imul hx hb dX2_expected_65 ?_
    refine lv_bipush (v := 100) hx hb dX2_expected_66 (by decide) ?_
    refine lv_idiv hx hb dX2_expected_68 (by decide) ?_
    refine lv_iadd hx hb dX2_expected_69 ?_
    refine rv_top (y := exN (mD (dA F a b))) (by simp [exN, c_39]) ?_
    refine lv_istore (lv' := [(5, .int (exN (mD (dA F a b)))), (4, .int (nI (mD (dA F a b) / 100))), (3, .int (nI (mD (dA F a b)))), (0, .ref h), (1, .int (nI a)), (2, .int (nI b))]) hx hb dX2_expected_70 hl (by decide) rfl (fun ls hl => ?_)
    refine lv_aload_n hx hb dX2_expected_72 rfl (lv_at hl 3 rfl) ?_
    refine va_get (D := (dC, dI)) (ci := 2) (v := .ref (ad 1)) (C := RX2) (T := TX2) (N := 11) hx hb hts hinX2 hown hK hP 0 rfl rfl 4 (by decide) (hts (.fieldLink RX2 9 "WrestleBookModel$State" "rating" "[I") (by decide +kernel)) (fun _ h9 => h9) rfl dX2_expected_73 ?_
    refine lv_iload_n hx hb dX2_expected_76 rfl (lv_at hl 4 rfl) ?_
    refine rv_iald (k := a) hx hb hK hP 2 0 rfl rfl (show a < 12 by omega) (by decide) dX2_expected_77 ?_
    refine lv_aload_n hx hb dX2_expected_78 rfl (lv_at hl 3 rfl) ?_
    refine va_get (D := (dC, dI)) (ci := 2) (v := .ref (ad 1)) (C := RX2) (T := TX2) (N := 11) hx hb hts hinX2 hown hK hP 0 rfl rfl 4 (by decide) (hts (.fieldLink RX2 9 "WrestleBookModel$State" "rating" "[I") (by decide +kernel)) (fun _ h9 => h9) rfl dX2_expected_79 ?_
    refine lv_iload_n hx hb dX2_expected_82 rfl (lv_at hl 5 rfl) ?_
    refine rv_iald (k := b) hx hb hK hP 2 0 rfl rfl (show b < 12 by omega) (by decide) dX2_expected_83 ?_
    refine lv_icmp_lt (tgt := 92) hx hb dX2_expected_84 (by decide) (fun c_84 => ?_) (fun c_84 => ?_)
    · refine lv_sipush (v := 1000) hx hb dX2_expected_92 (by decide) ?_
      refine lv_iload hx hb dX2_expected_95 (lv_at hl 0 rfl) ?_
      refine lv_isub hx hb dX2_expected_97 ?_
      exact W.iret (v := 1000 - (exN (mD (dA F a b)))) hx hb hr (fun t ht hW => ⟨_, rfl, (show 1000 - (exN (mD (dA F a b))) = s_exp F a b from by rw [s_exp_lt (Int32.not_le.mpr c_84)]), ht⟩) hS.2.2 dX2_expected_98
    · refine lv_iload hx hb dX2_expected_87 (lv_at hl 0 rfl) ?_
      refine lv_goto (tgt := 98) hx hb dX2_expected_89 (by decide) ?_
      exact W.iret (v := exN (mD (dA F a b))) hx hb hr (fun t ht hW => ⟨_, rfl, (show exN (mD (dA F a b)) = s_exp F a b from by rw [s_exp_ge (Int32.not_lt.mp c_84)]), ht⟩) hS.2.2 dX2_expected_98
  · refine lv_iconst (v := 0) hx hb dX2_expected_42 (by decide) ?_
    refine lv_goto (tgt := 69) hx hb dX2_expected_43 (by decide) ?_
    refine lv_iadd hx hb dX2_expected_69 ?_
    refine rv_top (y := exN (mD (dA F a b))) (by simp [exN, c_39]) ?_
    refine lv_istore (lv' := [(5, .int (exN (mD (dA F a b)))), (4, .int (nI (mD (dA F a b) / 100))), (3, .int (nI (mD (dA F a b)))), (0, .ref h), (1, .int (nI a)), (2, .int (nI b))]) hx hb dX2_expected_70 hl (by decide) rfl (fun ls hl => ?_)
    refine lv_aload_n hx hb dX2_expected_72 rfl (lv_at hl 3 rfl) ?_
    refine va_get (D := (dC, dI)) (ci := 2) (v := .ref (ad 1)) (C := RX2) (T := TX2) (N := 11) hx hb hts hinX2 hown hK hP 0 rfl rfl 4 (by decide) (hts (.fieldLink RX2 9 "WrestleBookModel$State" "rating" "[I") (by decide +kernel)) (fun _ h9 => h9) rfl dX2_expected_73 ?_
    refine lv_iload_n hx hb dX2_expected_76 rfl (lv_at hl 4 rfl) ?_
    refine rv_iald (k := a) hx hb hK hP 2 0 rfl rfl (show a < 12 by omega) (by decide) dX2_expected_77 ?_
    refine lv_aload_n hx hb dX2_expected_78 rfl (lv_at hl 3 rfl) ?_
    refine va_get (D := (dC, dI)) (ci := 2) (v := .ref (ad 1)) (C := RX2) (T := TX2) (N := 11) hx hb hts hinX2 hown hK hP 0 rfl rfl 4 (by decide) (hts (.fieldLink RX2 9 "WrestleBookModel$State" "rating" "[I") (by decide +kernel)) (fun _ h9 => h9) rfl dX2_expected_79 ?_
    refine lv_iload_n hx hb dX2_expected_82 rfl (lv_at hl 5 rfl) ?_
    refine rv_iald (k := b) hx hb hK hP 2 0 rfl rfl (show b < 12 by omega) (by decide) dX2_expected_83 ?_
    refine lv_icmp_lt (tgt := 92) hx hb dX2_expected_84 (by decide) (fun c_84 => ?_) (fun c_84 => ?_)
    · refine lv_sipush (v := 1000) hx hb dX2_expected_92 (by decide) ?_
      refine lv_iload hx hb dX2_expected_95 (lv_at hl 0 rfl) ?_
      refine lv_isub hx hb dX2_expected_97 ?_
      exact W.iret (v := 1000 - (exN (mD (dA F a b)))) hx hb hr (fun t ht hW => ⟨_, rfl, (show 1000 - (exN (mD (dA F a b))) = s_exp F a b from by rw [s_exp_lt (Int32.not_le.mpr c_84)]), ht⟩) hS.2.2 dX2_expected_98
    · refine lv_iload hx hb dX2_expected_87 (lv_at hl 0 rfl) ?_
      refine lv_goto (tgt := 98) hx hb dX2_expected_89 (by decide) ?_
      exact W.iret (v := exN (mD (dA F a b))) hx hb hr (fun t ht hW => ⟨_, rfl, (show exN (mD (dA F a b)) = s_exp F a b from by rw [s_exp_ge (Int32.not_lt.mp c_84)]), ht⟩) hS.2.2 dX2_expected_98

set_option maxHeartbeats 4000000 in
set_option maxRecDepth 100000 in
theorem c_X2_then (l : Launch) (dC : Nat → ClassId) (dI : Nat → Nat → Nat) (cI : ClassId) (h : Nat) (ad : Nat → Nat) (n : Nat) (F : Nat → Nat → Int32) (ct : Nat → Int32) (w : Nat) (i_w : w < n) (o : Nat) (i_o : o < n) (vr : Int32) (hn : n ≤ 12) (hR : okR n F) : Met l yX2_then wsX2_then ({ frames := 2, cells := 0, slots := 0, locals := 39 } : Room) (va_Pc [.ref h, .int (nI w), .int (nI o), .int vr] (fun U => PR dC dI cI (wS h ad cI n F ct) U)) (vp_Si (fun r => r = s_then F w o vr)) 0 0 (fun _ => False) := by
  refine Met.ofW (cc := cX2_then) (maxL := 4) (ret := (some .int)) (by decide) rfl ?_
  intro p e s m args below meth c s₁ B hml hv
  obtain ⟨rfl, hP, hK, hE⟩ := hv
  have hx := B.exec
  have hb := B.bytes
  have hr := B.returns
  have hts := atoms_spec (ws := wsX2_then) B.pre
  have hown : s.vm.findClass RX2 = some m.cls := findClass_of_methodNamed B.named
  have hlocks := B.notSynchronized
  have hS : va_S (fun _ => False) s.heap s.heap [] := va_S.rf
  have hinX2 : ∀ w ∈ wsX20, w ∈ wsX2_then := by decide +kernel
  have hl := lv_entry ([.ref h, .int (nI w), .int (nI o), .int vr]) (n := 4) (Nat.le_of_ble_eq_true rfl)
  rw [lg_entry_eq]
  generalize (lg_sl ([.ref h, .int (nI w), .int (nI o), .int vr]) ++ List.replicate (4 - (lg_sl ([.ref h, .int (nI w), .int (nI o), .int vr])).length) Slot.unset).toArray = ls at hl ⊢
  have hl : lv_has ls 4 [(0, .ref h), (1, .int (nI w)), (2, .int (nI o)), (3, .int vr)] := hl
  refine lv_bipush (v := 100) hx hb dX2_then_0 (by decide) ?_
  refine lv_sipush (v := 3000) hx hb dX2_then_2 (by decide) ?_
  refine lv_aload_n hx hb dX2_then_5 rfl (lv_at hl 0 rfl) ?_
  refine va_get (D := (dC, dI)) (ci := 2) (v := .ref (ad 1)) (C := RX2) (T := TX2) (N := 11) hx hb hts hinX2 hown hK hP 0 rfl rfl 4 (by decide) (hts (.fieldLink RX2 9 "WrestleBookModel$State" "rating" "[I") (by decide +kernel)) (fun _ h9 => h9) rfl dX2_then_6 ?_
  refine lv_iload_n hx hb dX2_then_9 rfl (lv_at hl 1 rfl) ?_
  refine rv_iald (k := w) hx hb hK hP 2 0 rfl rfl (show w < 12 by omega) (by decide) dX2_then_10 ?_
  refine lv_aload_n hx hb dX2_then_11 rfl (lv_at hl 0 rfl) ?_
  refine lv_iload_n hx hb dX2_then_12 rfl (lv_at hl 1 rfl) ?_
  refine vp_callSi (W.runV (As := [.int (nI w)]) (rest := [.int (F 1 w), .int 3000, .int 100]) ⟨hx, hb, hml, hown, hts⟩ (c_X2_weight l dC dI cI h ad n F ct w (show w < n by omega) hn) (cwV 1 hts gX2_then_X2_weight rfl rfl rfl (by decide +kernel) ⟨Nat.le_of_ble_eq_true rfl, Nat.le_of_ble_eq_true rfl⟩) ⟨PR.blind, va_recv hK hP (ci := 2) (q0 := 0) rfl rfl, fun U hU hW => ⟨rfl, PR.go hP hK hE hS hU hW⟩⟩ rfl rfl hl.1 rfl (lv_room (Nat.le_of_ble_eq_true rfl)) dX2_then_13 ⟨Nat.le_of_ble_eq_true rfl, Nat.le_of_ble_eq_true rfl⟩) (fun r hr0 => ?_)
  subst hr0
  refine lv_iload_n hx hb dX2_then_16 rfl (lv_at hl 3 rfl) ?_
  refine lv_aload_n hx hb dX2_then_17 rfl (lv_at hl 0 rfl) ?_
  refine lv_iload_n hx hb dX2_then_18 rfl (lv_at hl 1 rfl) ?_
  refine lv_iload_n hx hb dX2_then_19 rfl (lv_at hl 2 rfl) ?_
  refine vp_callSi (W.runV (As := [.int (nI w), .int (nI o)]) (rest := [.int vr, .int (s_wt F w), .int (F 1 w), .int 3000, .int 100]) ⟨hx, hb, hml, hown, hts⟩ (c_X2_expected l dC dI cI h ad n F ct w (show w < n by omega) o (show o < n by omega) hn hR) (cwV 2 hts gX2_then_X2_expected rfl rfl rfl (by decide +kernel) ⟨Nat.le_of_ble_eq_true rfl, Nat.le_of_ble_eq_true rfl⟩) ⟨PR.blind, va_recv hK hP (ci := 2) (q0 := 0) rfl rfl, fun U hU hW => ⟨rfl, PR.go hP hK hE hS hU hW⟩⟩ rfl rfl hl.1 rfl (lv_room (Nat.le_of_ble_eq_true rfl)) dX2_then_20 ⟨Nat.le_of_ble_eq_true rfl, Nat.le_of_ble_eq_true rfl⟩) (fun r hr0 => ?_)
  subst hr0
  refine lv_isub hx hb dX2_then_23 ?_
  refine lv_imul hx hb dX2_then_24 ?_
  refine lv_sipush (v := 1000) hx hb dX2_then_25 (by decide) ?_
  refine lv_idiv hx hb dX2_then_28 (by decide) ?_
  refine lv_iadd hx hb dX2_then_29 ?_
  refine va_mmin hx hb (hml.trans hl.1.symm) hown (hts (.methodLink RX2 62 Lib.Math.min.name) (by decide +kernel)) (hts (.static Lib.Math.min.name) (by decide +kernel)) (hts (.initialized "java/lang/Math") (by decide +kernel)) (hts (.code Lib.Math.min.name Lib.Math.min.code 2 (some .int)) (by decide +kernel)) (Nat.le_of_ble_eq_true rfl) (Nat.le_of_ble_eq_true rfl) (Nat.zero_le _) (Nat.zero_le _) dX2_then_30 ?_
  refine rv_top (y := minI 3000 (F 1 w + s_wt F w * (vr - s_exp F w o) / 1000)) rfl ?_
  refine va_mmax hx hb (hml.trans hl.1.symm) hown (hts (.methodLink RX2 75 Lib.Math.max.name) (by decide +kernel)) (hts (.static Lib.Math.max.name) (by decide +kernel)) (hts (.initialized "java/lang/Math") (by decide +kernel)) (hts (.code Lib.Math.max.name Lib.Math.max.code 2 (some .int)) (by decide +kernel)) (Nat.le_of_ble_eq_true rfl) (Nat.le_of_ble_eq_true rfl) (Nat.zero_le _) (Nat.zero_le _) dX2_then_33 ?_
  refine rv_top (y := s_then F w o vr) rfl ?_
  exact W.iret (v := s_then F w o vr) hx hb hr (fun t ht hW => ⟨_, rfl, (show s_then F w o vr = s_then F w o vr from by rfl), ht⟩) hS.2.2 dX2_then_36

set_option maxHeartbeats 4000000 in
set_option maxRecDepth 100000 in
theorem c_X2_setRating (l : Launch) (dC : Nat → ClassId) (dI : Nat → Nat → Nat) (cI : ClassId) (h : Nat) (ad : Nat → Nat) (n : Nat) (F : Nat → Nat → Int32) (ct : Nat → Int32) (sz : Nat) (w : Nat) (i_w : w < n) (vx : Int32) (hn : n ≤ 12) : Met l yX2_setRating wsX2_setRating ({ frames := 1, cells := 0, slots := 0, locals := 15 } : Room) (va_Pc [.ref h, .int (nI w), .int vx] (fun U => PW dC dI cI (wS h ad cI n F ct) sz U)) (va_Qv (fun (_ : Unit) => True) (BW dC dI (va_A (wS h ad cI n F ct) sz) (wS h ad cI n (s_set F w vx) ct)) (va_A (wS h ad cI n F ct) sz)) 0 0 (va_A (wS h ad cI n F ct) sz) := by
  refine Met.ofW (cc := cX2_setRating) (maxL := 3) (ret := none) (by decide) rfl ?_
  intro p e s m args below meth c s₁ B hml hv
  obtain ⟨rfl, hsz, hP, hK, hD0, hE⟩ := hv
  have hx := B.exec
  have hb := B.bytes
  have hr := B.returns
  have hts := atoms_spec (ws := wsX2_setRating) B.pre
  have hown : s.vm.findClass RX2 = some m.cls := findClass_of_methodNamed B.named
  have hlocks := B.notSynchronized
  subst hsz
  have hD := hD0.self (sz := s.heap.size)
  generalize hAe : va_A (wS h ad cI n F ct) s.heap.size = A at hD hE ⊢
  have hA : ∀ q : Nat, s.heap.size ≤ q → A q := fun q h9 => by rw [← hAe]; exact Or.inr h9
  have hS : va_S A s.heap s.heap [] := va_S.rf
  have hinX2 : ∀ w ∈ wsX20, w ∈ wsX2_setRating := by decide +kernel
  have hl := lv_entry ([.ref h, .int (nI w), .int vx]) (n := 3) (Nat.le_of_ble_eq_true rfl)
  rw [lg_entry_eq]
  generalize (lg_sl ([.ref h, .int (nI w), .int vx]) ++ List.replicate (3 - (lg_sl ([.ref h, .int (nI w), .int vx])).length) Slot.unset).toArray = ls at hl ⊢
  have hl : lv_has ls 3 [(0, .ref h), (1, .int (nI w)), (2, .int vx)] := hl
  refine lv_aload_n hx hb dX2_setRating_0 rfl (lv_at hl 0 rfl) ?_
  refine va_get (D := (dC, dI)) (ci := 2) (v := .ref (ad 1)) (C := RX2) (T := TX2) (N := 11) hx hb hts hinX2 hown hK hP 0 rfl rfl 4 (by decide) (hts (.fieldLink RX2 9 "WrestleBookModel$State" "rating" "[I") (by decide +kernel)) (fun _ h9 => h9) rfl dX2_setRating_1 ?_
  refine lv_iload_n hx hb dX2_setRating_4 rfl (lv_at hl 1 rfl) ?_
  refine lv_iload_n hx hb dX2_setRating_5 rfl (lv_at hl 2 rfl) ?_
  refine rv_iast (k := w) hx hb hK hP hD hS 2 0 rfl rfl (show w < 12 by omega) (by decide) dX2_setRating_6 (fun H locs hP hD hS => ?_)
  have hP : va_P (dC, dI) vwCl (wS h ad cI n (pu F 1 w vx) ct) H := hP
  have hD : va_D A (wS h ad cI n (pu F 1 w vx) ct) := hD
  refine lv_aload_n hx hb dX2_setRating_7 rfl (lv_at hl 0 rfl) ?_
  refine va_get (D := (dC, dI)) (ci := 2) (v := .ref (ad 6)) (C := RX2) (T := TX2) (N := 11) hx hb hts hinX2 hown hK hP 0 rfl rfl 10 (by decide) (hts (.fieldLink RX2 30 "WrestleBookModel$State" "best" "[I") (by decide +kernel)) (fun _ h9 => h9) rfl dX2_setRating_8 ?_
  refine lv_iload_n hx hb dX2_setRating_11 rfl (lv_at hl 1 rfl) ?_
  refine lv_aload_n hx hb dX2_setRating_12 rfl (lv_at hl 0 rfl) ?_
  refine va_get (D := (dC, dI)) (ci := 2) (v := .ref (ad 6)) (C := RX2) (T := TX2) (N := 11) hx hb hts hinX2 hown hK hP 0 rfl rfl 10 (by decide) (hts (.fieldLink RX2 30 "WrestleBookModel$State" "best" "[I") (by decide +kernel)) (fun _ h9 => h9) rfl dX2_setRating_13 ?_
  refine lv_iload_n hx hb dX2_setRating_16 rfl (lv_at hl 1 rfl) ?_
  refine rv_iald (k := w) hx hb hK hP 7 0 rfl rfl (show w < 12 by omega) (by decide) dX2_setRating_17 ?_
  refine lv_iload_n hx hb dX2_setRating_18 rfl (lv_at hl 2 rfl) ?_
  refine va_mmax hx hb (hml.trans hl.1.symm) hown (hts (.methodLink RX2 75 Lib.Math.max.name) (by decide +kernel)) (hts (.static Lib.Math.max.name) (by decide +kernel)) (hts (.initialized "java/lang/Math") (by decide +kernel)) (hts (.code Lib.Math.max.name Lib.Math.max.code 2 (some .int)) (by decide +kernel)) (Nat.le_of_ble_eq_true rfl) (Nat.le_of_ble_eq_true rfl) (Nat.zero_le _) (Nat.zero_le _) dX2_setRating_19 ?_
  refine rv_top (y := maxI (F 6 w) vx) (by simp [pu_app, maxI]) ?_
  refine rv_iast (k := w) hx hb hK hP hD hS 7 0 rfl rfl (show w < 12 by omega) (by decide) dX2_setRating_22 (fun H locs hP hD hS => ?_)
  have hP : va_P (dC, dI) vwCl (wS h ad cI n (pu (pu F 1 w vx) 6 w (maxI (F 6 w) vx)) ct) H := hP
  have hD : va_D A (wS h ad cI n (pu (pu F 1 w vx) 6 w (maxI (F 6 w) vx)) ct) := hD
  have hP8 : va_P (dC, dI) vwCl (wS h ad cI n (s_set F w vx) ct) H := hP
  have hD8 : va_D A (wS h ad cI n (s_set F w vx) ct) := hD
  exact W.vret hx hb hr (fun t ht hW => ⟨⟨(), rfl, trivial, by rw [ht]; exact hP8, hD8⟩, hS.F ht⟩) hS.2.2 dX2_setRating_23

set_option maxHeartbeats 4000000 in
set_option maxRecDepth 100000 in
theorem c_X2_note (l : Launch) (dC : Nat → ClassId) (dI : Nat → Nat → Nat) (cI : ClassId) (h : Nat) (ad : Nat → Nat) (n : Nat) (F : Nat → Nat → Int32) (ct : Nat → Int32) (sz : Nat) (w : Nat) (i_w : w < n) (q : Nat) (hq : q ≤ 2) (hn : n ≤ 12) : Met l yX2_note wsX2_note ({ frames := 0, cells := 0, slots := 0, locals := 0 } : Room) (va_Pc [.ref h, .int (nI w), .int (nI (500 * q))] (fun U => PW dC dI cI (wS h ad cI n F ct) sz U)) (va_Qv (fun (_ : Unit) => True) (BW dC dI (va_A (wS h ad cI n F ct) sz) (wS h ad cI n (s_note F w q) ct)) (va_A (wS h ad cI n F ct) sz)) 0 0 (va_A (wS h ad cI n F ct) sz) := by
  refine Met.ofW (cc := cX2_note) (maxL := 3) (ret := none) (by decide) rfl ?_
  intro p e s m args below meth c s₁ B hml hv
  obtain ⟨rfl, hsz, hP, hK, hD0, hE⟩ := hv
  have hx := B.exec
  have hb := B.bytes
  have hr := B.returns
  have hts := atoms_spec (ws := wsX2_note) B.pre
  have hown : s.vm.findClass RX2 = some m.cls := findClass_of_methodNamed B.named
  have hlocks := B.notSynchronized
  subst hsz
  have hD := hD0.self (sz := s.heap.size)
  generalize hAe : va_A (wS h ad cI n F ct) s.heap.size = A at hD hE ⊢
  have hA : ∀ q : Nat, s.heap.size ≤ q → A q := fun q h9 => by rw [← hAe]; exact Or.inr h9
  have hS : va_S A s.heap s.heap [] := va_S.rf
  have hinX2 : ∀ w ∈ wsX20, w ∈ wsX2_note := by decide +kernel
  have hl := lv_entry ([.ref h, .int (nI w), .int (nI (500 * q))]) (n := 3) (Nat.le_of_ble_eq_true rfl)
  rw [lg_entry_eq]
  generalize (lg_sl ([.ref h, .int (nI w), .int (nI (500 * q))]) ++ List.replicate (3 - (lg_sl ([.ref h, .int (nI w), .int (nI (500 * q))])).length) Slot.unset).toArray = ls at hl ⊢
  have hl : lv_has ls 3 [(0, .ref h), (1, .int (nI w)), (2, .int (nI (500 * q)))] := hl
  refine lv_aload_n hx hb dX2_note_0 rfl (lv_at hl 0 rfl) ?_
  refine va_get (D := (dC, dI)) (ci := 2) (v := .ref (ad 3)) (C := RX2) (T := TX2) (N := 11) hx hb hts hinX2 hown hK hP 0 rfl rfl 7 (by decide) (hts (.fieldLink RX2 21 "WrestleBookModel$State" "fought" "[I") (by decide +kernel)) (fun _ h9 => h9) rfl dX2_note_1 ?_
  refine lv_iload_n hx hb dX2_note_4 rfl (lv_at hl 1 rfl) ?_
  refine lv_dup2_11 hx hb dX2_note_5 rfl rfl ?_
  refine rv_iald (k := w) hx hb hK hP 4 0 rfl rfl (show w < 12 by omega) (by decide) dX2_note_6 ?_
  refine lv_iconst (v := 1) hx hb dX2_note_7 (by decide) ?_
  refine lv_iadd hx hb dX2_note_8 ?_
  refine rv_iast (k := w) hx hb hK hP hD hS 4 0 rfl rfl (show w < 12 by omega) (by decide) dX2_note_9 (fun H locs hP hD hS => ?_)
  have hP : va_P (dC, dI) vwCl (wS h ad cI n (pu F 3 w ((F 3 w) + 1)) ct) H := hP
  have hD : va_D A (wS h ad cI n (pu F 3 w ((F 3 w) + 1)) ct) := hD
  refine lv_aload_n hx hb dX2_note_10 rfl (lv_at hl 0 rfl) ?_
  refine va_get (D := (dC, dI)) (ci := 2) (v := .ref (ad 4)) (C := RX2) (T := TX2) (N := 11) hx hb hts hinX2 hown hK hP 0 rfl rfl 8 (by decide) (hts (.fieldLink RX2 24 "WrestleBookModel$State" "lately" "[I") (by decide +kernel)) (fun _ h9 => h9) rfl dX2_note_11 ?_
  refine lv_iload_n hx hb dX2_note_14 rfl (lv_at hl 1 rfl) ?_
  refine lv_dup2_11 hx hb dX2_note_15 rfl rfl ?_
  refine rv_iald (k := w) hx hb hK hP 5 0 rfl rfl (show w < 12 by omega) (by decide) dX2_note_16 ?_
  refine lv_iconst (v := 1) hx hb dX2_note_17 (by decide) ?_
  refine lv_iadd hx hb dX2_note_18 ?_
  refine rv_top (y := F 4 w + 1) (by simp [pu_app]) ?_
  refine rv_iast (k := w) hx hb hK hP hD hS 5 0 rfl rfl (show w < 12 by omega) (by decide) dX2_note_19 (fun H locs hP hD hS => ?_)
  have hP : va_P (dC, dI) vwCl (wS h ad cI n (pu (pu F 3 w ((F 3 w) + 1)) 4 w (F 4 w + 1)) ct) H := hP
  have hD : va_D A (wS h ad cI n (pu (pu F 3 w ((F 3 w) + 1)) 4 w (F 4 w + 1)) ct) := hD
  refine lv_aload_n hx hb dX2_note_20 rfl (lv_at hl 0 rfl) ?_
  refine va_get (D := (dC, dI)) (ci := 2) (v := .ref (ad 2)) (C := RX2) (T := TX2) (N := 11) hx hb hts hinX2 hown hK hP 0 rfl rfl 6 (by decide) (hts (.fieldLink RX2 18 "WrestleBookModel$State" "points" "[I") (by decide +kernel)) (fun _ h9 => h9) rfl dX2_note_21 ?_
  refine lv_iload_n hx hb dX2_note_24 rfl (lv_at hl 1 rfl) ?_
  refine lv_dup2_11 hx hb dX2_note_25 rfl rfl ?_
  refine rv_iald (k := w) hx hb hK hP 3 0 rfl rfl (show w < 12 by omega) (by decide) dX2_note_26 ?_
  refine lv_iload_n hx hb dX2_note_27 rfl (lv_at hl 2 rfl) ?_
  refine lv_sipush (v := 500) hx hb dX2_note_28 (by decide) ?_
  refine lv_idiv hx hb dX2_note_31 (by decide) ?_
  refine rv_top (y := nI q) (n500_div hq) ?_
  refine lv_iadd hx hb dX2_note_32 ?_
  refine rv_top (y := F 2 w + nI q) (by simp [pu_app]) ?_
  refine rv_iast (k := w) hx hb hK hP hD hS 3 0 rfl rfl (show w < 12 by omega) (by decide) dX2_note_33 (fun H locs hP hD hS => ?_)
  have hP : va_P (dC, dI) vwCl (wS h ad cI n (pu (pu (pu F 3 w ((F 3 w) + 1)) 4 w (F 4 w + 1)) 2 w (F 2 w + nI q)) ct) H := hP
  have hD : va_D A (wS h ad cI n (pu (pu (pu F 3 w ((F 3 w) + 1)) 4 w (F 4 w + 1)) 2 w (F 2 w + nI q)) ct) := hD
  refine lv_aload_n hx hb dX2_note_34 rfl (lv_at hl 0 rfl) ?_
  refine va_get (D := (dC, dI)) (ci := 2) (v := .ref (ad 5)) (C := RX2) (T := TX2) (N := 11) hx hb hts hinX2 hown hK hP 0 rfl rfl 9 (by decide) (hts (.fieldLink RX2 27 "WrestleBookModel$State" "wins" "[I") (by decide +kernel)) (fun _ h9 => h9) rfl dX2_note_35 ?_
  refine lv_iload_n hx hb dX2_note_38 rfl (lv_at hl 1 rfl) ?_
  refine lv_iload_n hx hb dX2_note_39 rfl (lv_at hl 2 rfl) ?_
  refine lv_sipush (v := 1000) hx hb dX2_note_40 (by decide) ?_
  refine rv_icmp_ne (tgt := 57) hx hb (a := (500 * q)) (b := 1000) (by omega) (by omega) dX2_note_43 (by decide) (fun c_43 => ?_) (fun c_43 => ?_)
  · refine lv_iconst (v := 0) hx hb dX2_note_57 (by decide) ?_
    refine rv_top (y := if q = 2 then F 5 w + 1 else 0) (by rw [if_neg (by omega)]) ?_
    refine rv_iast (k := w) hx hb hK hP hD hS 6 0 rfl rfl (show w < 12 by omega) (by decide) dX2_note_58 (fun H locs hP hD hS => ?_)
    have hP : va_P (dC, dI) vwCl (wS h ad cI n (pu (pu (pu (pu F 3 w ((F 3 w) + 1)) 4 w (F 4 w + 1)) 2 w (F 2 w + nI q)) 5 w (if q = 2 then F 5 w + 1 else 0)) ct) H := hP
    have hD : va_D A (wS h ad cI n (pu (pu (pu (pu F 3 w ((F 3 w) + 1)) 4 w (F 4 w + 1)) 2 w (F 2 w + nI q)) 5 w (if q = 2 then F 5 w + 1 else 0)) ct) := hD
    have hP8 : va_P (dC, dI) vwCl (wS h ad cI n (s_note F w q) ct) H := by rw [← note_comm]; exact hP
    have hD8 : va_D A (wS h ad cI n (s_note F w q) ct) := by rw [← note_comm]; exact hD
    exact W.vret hx hb hr (fun t ht hW => ⟨⟨(), rfl, trivial, by rw [ht]; exact hP8, hD8⟩, hS.F ht⟩) hS.2.2 dX2_note_59
  · refine lv_aload_n hx hb dX2_note_46 rfl (lv_at hl 0 rfl) ?_
    refine va_get (D := (dC, dI)) (ci := 2) (v := .ref (ad 5)) (C := RX2) (T := TX2) (N := 11) hx hb hts hinX2 hown hK hP 0 rfl rfl 9 (by decide) (hts (.fieldLink RX2 27 "WrestleBookModel$State" "wins" "[I") (by decide +kernel)) (fun _ h9 => h9) rfl dX2_note_47 ?_
    refine lv_iload_n hx hb dX2_note_50 rfl (lv_at hl 1 rfl) ?_
    refine rv_iald (k := w) hx hb hK hP 6 0 rfl rfl (show w < 12 by omega) (by decide) dX2_note_51 ?_
    refine lv_iconst (v := 1) hx hb dX2_note_52 (by decide) ?_
    refine lv_iadd hx hb dX2_note_53 ?_
    refine rv_top (y := if q = 2 then F 5 w + 1 else 0) (by rw [if_pos (by omega)]; simp [pu_app]) ?_
    refine lv_goto (tgt := 58) hx hb dX2_note_54 (by decide) ?_
    refine rv_iast (k := w) hx hb hK hP hD hS 6 0 rfl rfl (show w < 12 by omega) (by decide) dX2_note_58 (fun H locs hP hD hS => ?_)
    have hP : va_P (dC, dI) vwCl (wS h ad cI n (pu (pu (pu (pu F 3 w ((F 3 w) + 1)) 4 w (F 4 w + 1)) 2 w (F 2 w + nI q)) 5 w (if q = 2 then F 5 w + 1 else 0)) ct) H := hP
    have hD : va_D A (wS h ad cI n (pu (pu (pu (pu F 3 w ((F 3 w) + 1)) 4 w (F 4 w + 1)) 2 w (F 2 w + nI q)) 5 w (if q = 2 then F 5 w + 1 else 0)) ct) := hD
    have hP8 : va_P (dC, dI) vwCl (wS h ad cI n (s_note F w q) ct) H := by rw [← note_comm]; exact hP
    have hD8 : va_D A (wS h ad cI n (s_note F w q) ct) := by rw [← note_comm]; exact hD
    exact W.vret hx hb hr (fun t ht hW => ⟨⟨(), rfl, trivial, by rw [ht]; exact hP8, hD8⟩, hS.F ht⟩) hS.2.2 dX2_note_59

set_option maxHeartbeats 4000000 in
set_option maxRecDepth 100000 in
theorem c_X2_isAhead (l : Launch) (dC : Nat → ClassId) (dI : Nat → Nat → Nat) (cI : ClassId) (h : Nat) (ad : Nat → Nat) (n : Nat) (F : Nat → Nat → Int32) (ct : Nat → Int32) (a : Nat) (i_a : a < n) (b : Nat) (i_b : b < n) (hn : n ≤ 12) : Met l yX2_isAhead wsX2_isAhead ({ frames := 0, cells := 0, slots := 0, locals := 0 } : Room) (va_Pc [.ref h, .int (nI a), .int (nI b)] (fun U => PR dC dI cI (wS h ad cI n F ct) U)) (vp_Si (fun r => r = bI (ahead F a b))) 0 0 (fun _ => False) := by
  refine Met.ofW (cc := cX2_isAhead) (maxL := 3) (ret := (some .boolean)) (by decide) rfl ?_
  intro p e s m args below meth c s₁ B hml hv
  obtain ⟨rfl, hP, hK, hE⟩ := hv
  have hx := B.exec
  have hb := B.bytes
  have hr := B.returns
  have hts := atoms_spec (ws := wsX2_isAhead) B.pre
  have hown : s.vm.findClass RX2 = some m.cls := findClass_of_methodNamed B.named
  have hlocks := B.notSynchronized
  have hS : va_S (fun _ => False) s.heap s.heap [] := va_S.rf
  have hinX2 : ∀ w ∈ wsX20, w ∈ wsX2_isAhead := by decide +kernel
  have hl := lv_entry ([.ref h, .int (nI a), .int (nI b)]) (n := 3) (Nat.le_of_ble_eq_true rfl)
  rw [lg_entry_eq]
  generalize (lg_sl ([.ref h, .int (nI a), .int (nI b)]) ++ List.replicate (3 - (lg_sl ([.ref h, .int (nI a), .int (nI b)])).length) Slot.unset).toArray = ls at hl ⊢
  have hl : lv_has ls 3 [(0, .ref h), (1, .int (nI a)), (2, .int (nI b))] := hl
  refine lv_aload_n hx hb dX2_isAhead_0 rfl (lv_at hl 0 rfl) ?_
  refine va_get (D := (dC, dI)) (ci := 2) (v := .ref (ad 2)) (C := RX2) (T := TX2) (N := 11) hx hb hts hinX2 hown hK hP 0 rfl rfl 6 (by decide) (hts (.fieldLink RX2 18 "WrestleBookModel$State" "points" "[I") (by decide +kernel)) (fun _ h9 => h9) rfl dX2_isAhead_1 ?_
  refine lv_iload_n hx hb dX2_isAhead_4 rfl (lv_at hl 1 rfl) ?_
  refine rv_iald (k := a) hx hb hK hP 3 0 rfl rfl (show a < 12 by omega) (by decide) dX2_isAhead_5 ?_
  refine lv_aload_n hx hb dX2_isAhead_6 rfl (lv_at hl 0 rfl) ?_
  refine va_get (D := (dC, dI)) (ci := 2) (v := .ref (ad 2)) (C := RX2) (T := TX2) (N := 11) hx hb hts hinX2 hown hK hP 0 rfl rfl 6 (by decide) (hts (.fieldLink RX2 18 "WrestleBookModel$State" "points" "[I") (by decide +kernel)) (fun _ h9 => h9) rfl dX2_isAhead_7 ?_
  refine lv_iload_n hx hb dX2_isAhead_10 rfl (lv_at hl 2 rfl) ?_
  refine rv_iald (k := b) hx hb hK hP 3 0 rfl rfl (show b < 12 by omega) (by decide) dX2_isAhead_11 ?_
  refine lv_icmp_eq (tgt := 36) hx hb dX2_isAhead_12 (by decide) (fun c_12 => ?_) (fun c_12 => ?_)
  · refine lv_aload_n hx hb dX2_isAhead_36 rfl (lv_at hl 0 rfl) ?_
    refine va_get (D := (dC, dI)) (ci := 2) (v := .ref (ad 1)) (C := RX2) (T := TX2) (N := 11) hx hb hts hinX2 hown hK hP 0 rfl rfl 4 (by decide) (hts (.fieldLink RX2 9 "WrestleBookModel$State" "rating" "[I") (by decide +kernel)) (fun _ h9 => h9) rfl dX2_isAhead_37 ?_
    refine lv_iload_n hx hb dX2_isAhead_40 rfl (lv_at hl 1 rfl) ?_
    refine rv_iald (k := a) hx hb hK hP 2 0 rfl rfl (show a < 12 by omega) (by decide) dX2_isAhead_41 ?_
    refine lv_aload_n hx hb dX2_isAhead_42 rfl (lv_at hl 0 rfl) ?_
    refine va_get (D := (dC, dI)) (ci := 2) (v := .ref (ad 1)) (C := RX2) (T := TX2) (N := 11) hx hb hts hinX2 hown hK hP 0 rfl rfl 4 (by decide) (hts (.fieldLink RX2 9 "WrestleBookModel$State" "rating" "[I") (by decide +kernel)) (fun _ h9 => h9) rfl dX2_isAhead_43 ?_
    refine lv_iload_n hx hb dX2_isAhead_46 rfl (lv_at hl 2 rfl) ?_
    refine rv_iald (k := b) hx hb hK hP 2 0 rfl rfl (show b < 12 by omega) (by decide) dX2_isAhead_47 ?_
    refine lv_icmp_eq (tgt := 74) hx hb dX2_isAhead_48 (by decide) (fun c_48 => ?_) (fun c_48 => ?_)
    · refine lv_iload_n hx hb dX2_isAhead_74 rfl (lv_at hl 1 rfl) ?_
      refine lv_iload_n hx hb dX2_isAhead_75 rfl (lv_at hl 2 rfl) ?_
      refine rv_icmp_ge (tgt := 83) hx hb (a := a) (b := b) (by omega) (by omega) dX2_isAhead_76 (by decide) (fun c_76 => ?_) (fun c_76 => ?_)
      · refine lv_iconst (v := 0) hx hb dX2_isAhead_83 (by decide) ?_
        exact W.zret (v := 0) hx hb hr (by decide) (fun t ht hW => ⟨_, rfl, (show 0 = bI (ahead F a b) from by simp [ahead, bI, c_12, c_48, c_76, (show ¬ (a < b) from by omega)]), ht⟩) hS.2.2 dX2_isAhead_84
      · refine lv_iconst (v := 1) hx hb dX2_isAhead_79 (by decide) ?_
        refine lv_goto (tgt := 84) hx hb dX2_isAhead_80 (by decide) ?_
        exact W.zret (v := 1) hx hb hr (by decide) (fun t ht hW => ⟨_, rfl, (show 1 = bI (ahead F a b) from by simp [ahead, bI, c_12, c_48, c_76, (show a < b from by omega)]), ht⟩) hS.2.2 dX2_isAhead_84
    · refine lv_aload_n hx hb dX2_isAhead_51 rfl (lv_at hl 0 rfl) ?_
      refine va_get (D := (dC, dI)) (ci := 2) (v := .ref (ad 1)) (C := RX2) (T := TX2) (N := 11) hx hb hts hinX2 hown hK hP 0 rfl rfl 4 (by decide) (hts (.fieldLink RX2 9 "WrestleBookModel$State" "rating" "[I") (by decide +kernel)) (fun _ h9 => h9) rfl dX2_isAhead_52 ?_
      refine lv_iload_n hx hb dX2_isAhead_55 rfl (lv_at hl 1 rfl) ?_
      refine rv_iald (k := a) hx hb hK hP 2 0 rfl rfl (show a < 12 by omega) (by decide) dX2_isAhead_56 ?_
      refine lv_aload_n hx hb dX2_isAhead_57 rfl (lv_at hl 0 rfl) ?_
      refine va_get (D := (dC, dI)) (ci := 2) (v := .ref (ad 1)) (C := RX2) (T := TX2) (N := 11) hx hb hts hinX2 hown hK hP 0 rfl rfl 4 (by decide) (hts (.fieldLink RX2 9 "WrestleBookModel$State" "rating" "[I") (by decide +kernel)) (fun _ h9 => h9) rfl dX2_isAhead_58 ?_
      refine lv_iload_n hx hb dX2_isAhead_61 rfl (lv_at hl 2 rfl) ?_
      refine rv_iald (k := b) hx hb hK hP 2 0 rfl rfl (show b < 12 by omega) (by decide) dX2_isAhead_62 ?_
      refine lv_icmp_le (tgt := 70) hx hb dX2_isAhead_63 (by decide) (fun c_63 => ?_) (fun c_63 => ?_)
      · refine lv_iconst (v := 0) hx hb dX2_isAhead_70 (by decide) ?_
        refine lv_goto (tgt := 84) hx hb dX2_isAhead_71 (by decide) ?_
        exact W.zret (v := 0) hx hb hr (by decide) (fun t ht hW => ⟨_, rfl, (show 0 = bI (ahead F a b) from by simp [ahead, bI, c_12, c_48, c_63]), ht⟩) hS.2.2 dX2_isAhead_84
      · refine lv_iconst (v := 1) hx hb dX2_isAhead_66 (by decide) ?_
        refine lv_goto (tgt := 84) hx hb dX2_isAhead_67 (by decide) ?_
        exact W.zret (v := 1) hx hb hr (by decide) (fun t ht hW => ⟨_, rfl, (show 1 = bI (ahead F a b) from by simp [ahead, bI, c_12, c_48, c_63]), ht⟩) hS.2.2 dX2_isAhead_84
  · refine lv_aload_n hx hb dX2_isAhead_15 rfl (lv_at hl 0 rfl) ?_
    refine va_get (D := (dC, dI)) (ci := 2) (v := .ref (ad 2)) (C := RX2) (T := TX2) (N := 11) hx hb hts hinX2 hown hK hP 0 rfl rfl 6 (by decide) (hts (.fieldLink RX2 18 "WrestleBookModel$State" "points" "[I") (by decide +kernel)) (fun _ h9 => h9) rfl dX2_isAhead_16 ?_
    refine lv_iload_n hx hb dX2_isAhead_19 rfl (lv_at hl 1 rfl) ?_
    refine rv_iald (k := a) hx hb hK hP 3 0 rfl rfl (show a < 12 by omega) (by decide) dX2_isAhead_20 ?_
    refine lv_aload_n hx hb dX2_isAhead_21 rfl (lv_at hl 0 rfl) ?_
    refine va_get (D := (dC, dI)) (ci := 2) (v := .ref (ad 2)) (C := RX2) (T := TX2) (N := 11) hx hb hts hinX2 hown hK hP 0 rfl rfl 6 (by decide) (hts (.fieldLink RX2 18 "WrestleBookModel$State" "points" "[I") (by decide +kernel)) (fun _ h9 => h9) rfl dX2_isAhead_22 ?_
    refine lv_iload_n hx hb dX2_isAhead_25 rfl (lv_at hl 2 rfl) ?_
    refine rv_iald (k := b) hx hb hK hP 3 0 rfl rfl (show b < 12 by omega) (by decide) dX2_isAhead_26 ?_
    refine lv_icmp_le (tgt := 34) hx hb dX2_isAhead_27 (by decide) (fun c_27 => ?_) (fun c_27 => ?_)
    · refine lv_iconst (v := 0) hx hb dX2_isAhead_34 (by decide) ?_
      exact W.zret (v := 0) hx hb hr (by decide) (fun t ht hW => ⟨_, rfl, (show 0 = bI (ahead F a b) from by simp [ahead, bI, c_12, c_27]), ht⟩) hS.2.2 dX2_isAhead_35
    · refine lv_iconst (v := 1) hx hb dX2_isAhead_30 (by decide) ?_
      refine lv_goto (tgt := 35) hx hb dX2_isAhead_31 (by decide) ?_
      exact W.zret (v := 1) hx hb hr (by decide) (fun t ht hW => ⟨_, rfl, (show 1 = bI (ahead F a b) from by simp [ahead, bI, c_12, c_27]), ht⟩) hS.2.2 dX2_isAhead_35

set_option maxHeartbeats 4000000 in
set_option maxRecDepth 100000 in
theorem c_X2_place (l : Launch) (dC : Nat → ClassId) (dI : Nat → Nat → Nat) (cI : ClassId) (h : Nat) (ad : Nat → Nat) (n : Nat) (F : Nat → Nat → Int32) (ct : Nat → Int32) (w : Nat) (i_w : w < n) (hn : n ≤ 12) : Met l yX2_place wsX2_place ({ frames := 1, cells := 0, slots := 0, locals := 22 } : Room) (va_Pc [.ref h, .int (nI w)] (fun U => PR dC dI cI (wS h ad cI n F ct) U)) (vp_Si (fun r => r = nI (s_place n F w))) 0 0 (fun _ => False) := by
  refine Met.ofW (cc := cX2_place) (maxL := 4) (ret := (some .int)) (by decide) rfl ?_
  intro p e s m args below meth c s₁ B hml hv
  obtain ⟨rfl, hP, hK, hE⟩ := hv
  have hx := B.exec
  have hb := B.bytes
  have hr := B.returns
  have hts := atoms_spec (ws := wsX2_place) B.pre
  have hown : s.vm.findClass RX2 = some m.cls := findClass_of_methodNamed B.named
  have hlocks := B.notSynchronized
  have hS : va_S (fun _ => False) s.heap s.heap [] := va_S.rf
  have hinX2 : ∀ w ∈ wsX20, w ∈ wsX2_place := by decide +kernel
  have hl := lv_entry ([.ref h, .int (nI w)]) (n := 4) (Nat.le_of_ble_eq_true rfl)
  rw [lg_entry_eq]
  generalize (lg_sl ([.ref h, .int (nI w)]) ++ List.replicate (4 - (lg_sl ([.ref h, .int (nI w)])).length) Slot.unset).toArray = ls at hl ⊢
  have hl : lv_has ls 4 [(0, .ref h), (1, .int (nI w))] := hl
  refine lv_iconst (v := 1) hx hb dX2_place_0 (by decide) ?_
  refine lv_istore_n (lv' := [(2, .int 1), (0, .ref h), (1, .int (nI w))]) hx hb dX2_place_1 rfl hl (by decide) rfl (fun ls hl => ?_)
  refine lv_iconst (v := 0) hx hb dX2_place_2 (by decide) ?_
  refine lv_istore_n (lv' := [(3, .int 0), (2, .int 1), (0, .ref h), (1, .int (nI w))]) hx hb dX2_place_3 rfl hl (by decide) rfl (fun ls hl => ?_)
  have L_4 : ∀ (k i : Nat) (a2 : Nat), i + k = n → a2 = s_placeU F w i → ∀ (ls : Array Slot), lv_has ls 4 [(3, .int (nI i)), (2, .int (nI a2)), (0, .ref h), (1, .int (nI w))] → W p l e (headSpec wsX2_place ({ frames := 1, cells := 0, slots := 0, locals := 22 } : Room)).room s m ([.ref h, .int (nI w)] : List Value).toArray below meth c s.heap [] 0 0 (MQ below (vp_Si (fun r => r = nI (s_place n F w))) ([.ref h, .int (nI w)] : List Value).toArray s 0 0 (fun _ => False)) (F0 m 4 ls []) := by
    intro k
    induction k with
    | zero =>
      intro i a2 e_i ha2 ls hl
      refine lv_iload_n hx hb dX2_place_4 rfl (lv_at hl 0 rfl) ?_
      refine lv_aload_n hx hb dX2_place_5 rfl (lv_at hl 2 rfl) ?_
      refine va_get (D := (dC, dI)) (ci := 2) (v := .int (nI n)) (C := RX2) (T := TX2) (N := 11) hx hb hts hinX2 hown hK hP 0 rfl rfl 1 (by decide) (hts (.fieldLink RX2 43 "WrestleBookModel$State" "wrestlers" "I") (by decide +kernel)) (fun _ h9 => h9) rfl dX2_place_6 ?_
      refine rv_icmp_ge (tgt := 55) hx hb (a := i) (b := n) (by omega) (by omega) dX2_place_9 (by decide) (fun c_9 => ?_) (fun c_9 => ?_)
      · refine lv_iload_n hx hb dX2_place_55 rfl (lv_at hl 1 rfl) ?_
        exact W.iret (v := nI a2) hx hb hr (fun t ht hW => ⟨_, rfl, (show nI a2 = nI (s_place n F w) from by rw [ha2, show i = n by omega]; rfl), ht⟩) hS.2.2 dX2_place_56
      · exact absurd c_9 (by omega)
    | succ k ih_4 =>
      intro i a2 e_i ha2 ls hl
      refine lv_iload_n hx hb dX2_place_4 rfl (lv_at hl 0 rfl) ?_
      refine lv_aload_n hx hb dX2_place_5 rfl (lv_at hl 2 rfl) ?_
      refine va_get (D := (dC, dI)) (ci := 2) (v := .int (nI n)) (C := RX2) (T := TX2) (N := 11) hx hb hts hinX2 hown hK hP 0 rfl rfl 1 (by decide) (hts (.fieldLink RX2 43 "WrestleBookModel$State" "wrestlers" "I") (by decide +kernel)) (fun _ h9 => h9) rfl dX2_place_6 ?_
      refine rv_icmp_ge (tgt := 55) hx hb (a := i) (b := n) (by omega) (by omega) dX2_place_9 (by decide) (fun c_9 => ?_) (fun c_9 => ?_)
      · exact absurd c_9 (by omega)
      · refine lv_iload_n hx hb dX2_place_12 rfl (lv_at hl 1 rfl) ?_
        refine lv_iload_n hx hb dX2_place_13 rfl (lv_at hl 0 rfl) ?_
        refine lv_iload_n hx hb dX2_place_14 rfl (lv_at hl 3 rfl) ?_
        refine rv_icmp_eq (tgt := 46) hx hb (a := i) (b := w) (by omega) (by omega) dX2_place_15 (by decide) (fun c_15 => ?_) (fun c_15 => ?_)
        · refine lv_iconst (v := 0) hx hb dX2_place_46 (by decide) ?_
          refine lv_iadd hx hb dX2_place_47 ?_
          refine rv_top (y := nI a2) (Int32.add_zero _) ?_
          refine lv_istore_n (lv' := [(2, .int (nI a2)), (3, .int (nI i)), (0, .ref h), (1, .int (nI w))]) hx hb dX2_place_48 rfl hl (by decide) rfl (fun ls hl => ?_)
          refine lv_iinc (v := nI (i + 1)) (lv' := [(3, .int (nI (i + 1))), (2, .int (nI a2)), (0, .ref h), (1, .int (nI w))]) hx hb dX2_place_49 hl (k := 1) rfl (nI_add i 1) (by decide) rfl (fun ls hl => ?_)
          refine lv_goto (tgt := 4) hx hb dX2_place_52 (by decide) ?_
          exact ih_4 (i + 1) a2 (by omega) (by rw [ha2]; simp only [s_placeU, fo_s]; simp [ahead_self, c_9, (show i < n from by omega), c_15]) ls (lv_sub hl [0, 1, 2, 3] rfl)
        · refine lv_aload_n hx hb dX2_place_18 rfl (lv_at hl 2 rfl) ?_
          refine va_get (D := (dC, dI)) (ci := 2) (v := .ref (ad 0)) (C := RX2) (T := TX2) (N := 11) hx hb hts hinX2 hown hK hP 0 rfl rfl 5 (by decide) (hts (.fieldLink RX2 15 "WrestleBookModel$State" "league" "[I") (by decide +kernel)) (fun _ h9 => h9) rfl dX2_place_19 ?_
          refine lv_iload_n hx hb dX2_place_22 rfl (lv_at hl 0 rfl) ?_
          refine rv_iald (k := i) hx hb hK hP 1 0 rfl rfl (show i < 12 by omega) (by decide) dX2_place_23 ?_
          refine lv_aload_n hx hb dX2_place_24 rfl (lv_at hl 2 rfl) ?_
          refine va_get (D := (dC, dI)) (ci := 2) (v := .ref (ad 0)) (C := RX2) (T := TX2) (N := 11) hx hb hts hinX2 hown hK hP 0 rfl rfl 5 (by decide) (hts (.fieldLink RX2 15 "WrestleBookModel$State" "league" "[I") (by decide +kernel)) (fun _ h9 => h9) rfl dX2_place_25 ?_
          refine lv_iload_n hx hb dX2_place_28 rfl (lv_at hl 3 rfl) ?_
          refine rv_iald (k := w) hx hb hK hP 1 0 rfl rfl (show w < 12 by omega) (by decide) dX2_place_29 ?_
          refine lv_icmp_ne (tgt := 46) hx hb dX2_place_30 (by decide) (fun c_30 => ?_) (fun c_30 => ?_)
          · refine lv_iconst (v := 0) hx hb dX2_place_46 (by decide) ?_
            refine lv_iadd hx hb dX2_place_47 ?_
            refine rv_top (y := nI a2) (Int32.add_zero _) ?_
            refine lv_istore_n (lv' := [(2, .int (nI a2)), (3, .int (nI i)), (0, .ref h), (1, .int (nI w))]) hx hb dX2_place_48 rfl hl (by decide) rfl (fun ls hl => ?_)
            refine lv_iinc (v := nI (i + 1)) (lv' := [(3, .int (nI (i + 1))), (2, .int (nI a2)), (0, .ref h), (1, .int (nI w))]) hx hb dX2_place_49 hl (k := 1) rfl (nI_add i 1) (by decide) rfl (fun ls hl => ?_)
            refine lv_goto (tgt := 4) hx hb dX2_place_52 (by decide) ?_
            exact ih_4 (i + 1) a2 (by omega) (by rw [ha2]; simp only [s_placeU, fo_s]; simp [ahead_self, c_9, (show i < n from by omega), c_15, c_30]) ls (lv_sub hl [0, 1, 2, 3] rfl)
          · refine lv_aload_n hx hb dX2_place_33 rfl (lv_at hl 2 rfl) ?_
            refine lv_iload_n hx hb dX2_place_34 rfl (lv_at hl 0 rfl) ?_
            refine lv_iload_n hx hb dX2_place_35 rfl (lv_at hl 3 rfl) ?_
            refine vp_callSi (W.runV (As := [.int (nI i), .int (nI w)]) (rest := [.int (nI a2)]) ⟨hx, hb, hml, hown, hts⟩ (c_X2_isAhead l dC dI cI h ad n F ct i (show i < n by omega) w (show w < n by omega) hn) (cwV 2 hts gX2_place_X2_isAhead rfl rfl rfl (by decide +kernel) ⟨Nat.le_of_ble_eq_true rfl, Nat.le_of_ble_eq_true rfl⟩) ⟨PR.blind, va_recv hK hP (ci := 2) (q0 := 0) rfl rfl, fun U hU hW => ⟨rfl, PR.go hP hK hE hS hU hW⟩⟩ rfl rfl hl.1 rfl (lv_room (Nat.le_of_ble_eq_true rfl)) dX2_place_36 ⟨Nat.le_of_ble_eq_true rfl, Nat.le_of_ble_eq_true rfl⟩) (fun r hr0 => ?_)
            subst hr0
            refine rv_ifb_eq (tgt := 46) hx hb dX2_place_39 (by decide) (fun c_39 => ?_) (fun c_39 => ?_)
            · refine lv_iconst (v := 0) hx hb dX2_place_46 (by decide) ?_
              refine lv_iadd hx hb dX2_place_47 ?_
              refine rv_top (y := nI a2) (Int32.add_zero _) ?_
              refine lv_istore_n (lv' := [(2, .int (nI a2)), (3, .int (nI i)), (0, .ref h), (1, .int (nI w))]) hx hb dX2_place_48 rfl hl (by decide) rfl (fun ls hl => ?_)
              refine lv_iinc (v := nI (i + 1)) (lv' := [(3, .int (nI (i + 1))), (2, .int (nI a2)), (0, .ref h), (1, .int (nI w))]) hx hb dX2_place_49 hl (k := 1) rfl (nI_add i 1) (by decide) rfl (fun ls hl => ?_)
              refine lv_goto (tgt := 4) hx hb dX2_place_52 (by decide) ?_
              exact ih_4 (i + 1) a2 (by omega) (by rw [ha2]; simp only [s_placeU, fo_s]; simp [ahead_self, c_9, (show i < n from by omega), c_15, c_30, c_39]) ls (lv_sub hl [0, 1, 2, 3] rfl)
            · refine lv_iconst (v := 1) hx hb dX2_place_42 (by decide) ?_
              refine lv_goto (tgt := 47) hx hb dX2_place_43 (by decide) ?_
              refine lv_iadd hx hb dX2_place_47 ?_
              refine rv_top (y := nI (a2 + 1)) (nI_1 a2) ?_
              refine lv_istore_n (lv' := [(2, .int (nI (a2 + 1))), (3, .int (nI i)), (0, .ref h), (1, .int (nI w))]) hx hb dX2_place_48 rfl hl (by decide) rfl (fun ls hl => ?_)
              refine lv_iinc (v := nI (i + 1)) (lv' := [(3, .int (nI (i + 1))), (2, .int (nI (a2 + 1))), (0, .ref h), (1, .int (nI w))]) hx hb dX2_place_49 hl (k := 1) rfl (nI_add i 1) (by decide) rfl (fun ls hl => ?_)
              refine lv_goto (tgt := 4) hx hb dX2_place_52 (by decide) ?_
              exact ih_4 (i + 1) (a2 + 1) (by omega) (by rw [ha2]; simp only [s_placeU, fo_s]; simp [ahead_self, c_9, (show i < n from by omega), c_15, c_30, c_39]) ls (lv_sub hl [0, 1, 2, 3] rfl)
  exact L_4 n 0 1 (by omega) rfl ls (lv_sub hl [0, 1, 2, 3] rfl)

set_option maxHeartbeats 4000000 in
set_option maxRecDepth 100000 in
theorem c_X2_many (l : Launch) (dC : Nat → ClassId) (dI : Nat → Nat → Nat) (cI : ClassId) (h : Nat) (ad : Nat → Nat) (n : Nat) (F : Nat → Nat → Int32) (ct : Nat → Int32) (vp : Int32) (hn : n ≤ 12) : Met l yX2_many wsX2_many ({ frames := 0, cells := 0, slots := 0, locals := 0 } : Room) (va_Pc [.ref h, .int vp] (fun U => PR dC dI cI (wS h ad cI n F ct) U)) (vp_Si (fun r => r = nI (s_many n F vp))) 0 0 (fun _ => False) := by
  refine Met.ofW (cc := cX2_many) (maxL := 4) (ret := (some .int)) (by decide) rfl ?_
  intro p e s m args below meth c s₁ B hml hv
  obtain ⟨rfl, hP, hK, hE⟩ := hv
  have hx := B.exec
  have hb := B.bytes
  have hr := B.returns
  have hts := atoms_spec (ws := wsX2_many) B.pre
  have hown : s.vm.findClass RX2 = some m.cls := findClass_of_methodNamed B.named
  have hlocks := B.notSynchronized
  have hS : va_S (fun _ => False) s.heap s.heap [] := va_S.rf
  have hinX2 : ∀ w ∈ wsX20, w ∈ wsX2_many := by decide +kernel
  have hl := lv_entry ([.ref h, .int vp]) (n := 4) (Nat.le_of_ble_eq_true rfl)
  rw [lg_entry_eq]
  generalize (lg_sl ([.ref h, .int vp]) ++ List.replicate (4 - (lg_sl ([.ref h, .int vp])).length) Slot.unset).toArray = ls at hl ⊢
  have hl : lv_has ls 4 [(0, .ref h), (1, .int vp)] := hl
  refine lv_iconst (v := 0) hx hb dX2_many_0 (by decide) ?_
  refine lv_istore_n (lv' := [(2, .int 0), (0, .ref h), (1, .int vp)]) hx hb dX2_many_1 rfl hl (by decide) rfl (fun ls hl => ?_)
  refine lv_iconst (v := 0) hx hb dX2_many_2 (by decide) ?_
  refine lv_istore_n (lv' := [(3, .int 0), (2, .int 0), (0, .ref h), (1, .int vp)]) hx hb dX2_many_3 rfl hl (by decide) rfl (fun ls hl => ?_)
  have L_4 : ∀ (k i : Nat) (a2 : Nat), i + k = n → a2 = s_manyU F vp i → ∀ (ls : Array Slot), lv_has ls 4 [(3, .int (nI i)), (2, .int (nI a2)), (0, .ref h), (1, .int vp)] → W p l e (headSpec wsX2_many ({ frames := 0, cells := 0, slots := 0, locals := 0 } : Room)).room s m ([.ref h, .int vp] : List Value).toArray below meth c s.heap [] 0 0 (MQ below (vp_Si (fun r => r = nI (s_many n F vp))) ([.ref h, .int vp] : List Value).toArray s 0 0 (fun _ => False)) (F0 m 4 ls []) := by
    intro k
    induction k with
    | zero =>
      intro i a2 e_i ha2 ls hl
      refine lv_iload_n hx hb dX2_many_4 rfl (lv_at hl 0 rfl) ?_
      refine lv_aload_n hx hb dX2_many_5 rfl (lv_at hl 2 rfl) ?_
      refine va_get (D := (dC, dI)) (ci := 2) (v := .int (nI n)) (C := RX2) (T := TX2) (N := 11) hx hb hts hinX2 hown hK hP 0 rfl rfl 1 (by decide) (hts (.fieldLink RX2 43 "WrestleBookModel$State" "wrestlers" "I") (by decide +kernel)) (fun _ h9 => h9) rfl dX2_many_6 ?_
      refine rv_icmp_ge (tgt := 36) hx hb (a := i) (b := n) (by omega) (by omega) dX2_many_9 (by decide) (fun c_9 => ?_) (fun c_9 => ?_)
      · refine lv_iload_n hx hb dX2_many_36 rfl (lv_at hl 1 rfl) ?_
        exact W.iret (v := nI a2) hx hb hr (fun t ht hW => ⟨_, rfl, (show nI a2 = nI (s_many n F vp) from by rw [ha2, show i = n by omega]; rfl), ht⟩) hS.2.2 dX2_many_37
      · exact absurd c_9 (by omega)
    | succ k ih_4 =>
      intro i a2 e_i ha2 ls hl
      refine lv_iload_n hx hb dX2_many_4 rfl (lv_at hl 0 rfl) ?_
      refine lv_aload_n hx hb dX2_many_5 rfl (lv_at hl 2 rfl) ?_
      refine va_get (D := (dC, dI)) (ci := 2) (v := .int (nI n)) (C := RX2) (T := TX2) (N := 11) hx hb hts hinX2 hown hK hP 0 rfl rfl 1 (by decide) (hts (.fieldLink RX2 43 "WrestleBookModel$State" "wrestlers" "I") (by decide +kernel)) (fun _ h9 => h9) rfl dX2_many_6 ?_
      refine rv_icmp_ge (tgt := 36) hx hb (a := i) (b := n) (by omega) (by omega) dX2_many_9 (by decide) (fun c_9 => ?_) (fun c_9 => ?_)
      · exact absurd c_9 (by omega)
      · refine lv_iload_n hx hb dX2_many_12 rfl (lv_at hl 1 rfl) ?_
        refine lv_aload_n hx hb dX2_many_13 rfl (lv_at hl 2 rfl) ?_
        refine va_get (D := (dC, dI)) (ci := 2) (v := .ref (ad 0)) (C := RX2) (T := TX2) (N := 11) hx hb hts hinX2 hown hK hP 0 rfl rfl 5 (by decide) (hts (.fieldLink RX2 15 "WrestleBookModel$State" "league" "[I") (by decide +kernel)) (fun _ h9 => h9) rfl dX2_many_14 ?_
        refine lv_iload_n hx hb dX2_many_17 rfl (lv_at hl 0 rfl) ?_
        refine rv_iald (k := i) hx hb hK hP 1 0 rfl rfl (show i < 12 by omega) (by decide) dX2_many_18 ?_
        refine lv_iload_n hx hb dX2_many_19 rfl (lv_at hl 3 rfl) ?_
        refine lv_icmp_ne (tgt := 27) hx hb dX2_many_20 (by decide) (fun c_20 => ?_) (fun c_20 => ?_)
        · refine lv_iconst (v := 0) hx hb dX2_many_27 (by decide) ?_
          refine lv_iadd hx hb dX2_many_28 ?_
          refine rv_top (y := nI a2) (Int32.add_zero _) ?_
          refine lv_istore_n (lv' := [(2, .int (nI a2)), (3, .int (nI i)), (0, .ref h), (1, .int vp)]) hx hb dX2_many_29 rfl hl (by decide) rfl (fun ls hl => ?_)
          refine lv_iinc (v := nI (i + 1)) (lv' := [(3, .int (nI (i + 1))), (2, .int (nI a2)), (0, .ref h), (1, .int vp)]) hx hb dX2_many_30 hl (k := 1) rfl (nI_add i 1) (by decide) rfl (fun ls hl => ?_)
          refine lv_goto (tgt := 4) hx hb dX2_many_33 (by decide) ?_
          exact ih_4 (i + 1) a2 (by omega) (by rw [ha2]; simp only [s_manyU, fo_s]; simp [c_9, (show i < n from by omega), c_20]) ls (lv_sub hl [0, 1, 2, 3] rfl)
        · refine lv_iconst (v := 1) hx hb dX2_many_23 (by decide) ?_
          refine lv_goto (tgt := 28) hx hb dX2_many_24 (by decide) ?_
          refine lv_iadd hx hb dX2_many_28 ?_
          refine rv_top (y := nI (a2 + 1)) (nI_1 a2) ?_
          refine lv_istore_n (lv' := [(2, .int (nI (a2 + 1))), (3, .int (nI i)), (0, .ref h), (1, .int vp)]) hx hb dX2_many_29 rfl hl (by decide) rfl (fun ls hl => ?_)
          refine lv_iinc (v := nI (i + 1)) (lv' := [(3, .int (nI (i + 1))), (2, .int (nI (a2 + 1))), (0, .ref h), (1, .int vp)]) hx hb dX2_many_30 hl (k := 1) rfl (nI_add i 1) (by decide) rfl (fun ls hl => ?_)
          refine lv_goto (tgt := 4) hx hb dX2_many_33 (by decide) ?_
          exact ih_4 (i + 1) (a2 + 1) (by omega) (by rw [ha2]; simp only [s_manyU, fo_s]; simp [c_9, (show i < n from by omega), c_20]) ls (lv_sub hl [0, 1, 2, 3] rfl)
  exact L_4 n 0 0 (by omega) rfl ls (lv_sub hl [0, 1, 2, 3] rfl)

set_option maxHeartbeats 4000000 in
set_option maxRecDepth 100000 in
theorem c_X2_at (l : Launch) (dC : Nat → ClassId) (dI : Nat → Nat → Nat) (cI : ClassId) (h : Nat) (ad : Nat → Nat) (n : Nat) (F : Nat → Nat → Int32) (ct : Nat → Int32) (vp : Int32) (vq : Int32) (hn : n ≤ 12) : Met l yX2_at wsX2_at ({ frames := 2, cells := 0, slots := 0, locals := 45 } : Room) (va_Pc [.ref h, .int vp, .int vq] (fun U => PR dC dI cI (wS h ad cI n F ct) U)) (vp_Si (fun r => r = oI (s_at n F vp vq))) 0 0 (fun _ => False) := by
  refine Met.ofW (cc := cX2_at) (maxL := 4) (ret := (some .int)) (by decide) rfl ?_
  intro p e s m args below meth c s₁ B hml hv
  obtain ⟨rfl, hP, hK, hE⟩ := hv
  have hx := B.exec
  have hb := B.bytes
  have hr := B.returns
  have hts := atoms_spec (ws := wsX2_at) B.pre
  have hown : s.vm.findClass RX2 = some m.cls := findClass_of_methodNamed B.named
  have hlocks := B.notSynchronized
  have hS : va_S (fun _ => False) s.heap s.heap [] := va_S.rf
  have hinX2 : ∀ w ∈ wsX20, w ∈ wsX2_at := by decide +kernel
  have hl := lv_entry ([.ref h, .int vp, .int vq]) (n := 4) (Nat.le_of_ble_eq_true rfl)
  rw [lg_entry_eq]
  generalize (lg_sl ([.ref h, .int vp, .int vq]) ++ List.replicate (4 - (lg_sl ([.ref h, .int vp, .int vq])).length) Slot.unset).toArray = ls at hl ⊢
  have hl : lv_has ls 4 [(0, .ref h), (1, .int vp), (2, .int vq)] := hl
  refine lv_iconst (v := 0) hx hb dX2_at_0 (by decide) ?_
  refine lv_istore_n (lv' := [(3, .int 0), (0, .ref h), (1, .int vp), (2, .int vq)]) hx hb dX2_at_1 rfl hl (by decide) rfl (fun ls hl => ?_)
  have L_2 : ∀ (k i : Nat), i + k = n → s_atU n F vp vq i = none → ∀ (ls : Array Slot), lv_has ls 4 [(3, .int (nI i)), (0, .ref h), (1, .int vp), (2, .int vq)] → W p l e (headSpec wsX2_at ({ frames := 2, cells := 0, slots := 0, locals := 45 } : Room)).room s m ([.ref h, .int vp, .int vq] : List Value).toArray below meth c s.heap [] 0 0 (MQ below (vp_Si (fun r => r = oI (s_at n F vp vq))) ([.ref h, .int vp, .int vq] : List Value).toArray s 0 0 (fun _ => False)) (F0 m 2 ls []) := by
    intro k
    induction k with
    | zero =>
      intro i e_i hq ls hl
      refine lv_iload_n hx hb dX2_at_2 rfl (lv_at hl 0 rfl) ?_
      refine lv_aload_n hx hb dX2_at_3 rfl (lv_at hl 1 rfl) ?_
      refine va_get (D := (dC, dI)) (ci := 2) (v := .int (nI n)) (C := RX2) (T := TX2) (N := 11) hx hb hts hinX2 hown hK hP 0 rfl rfl 1 (by decide) (hts (.fieldLink RX2 43 "WrestleBookModel$State" "wrestlers" "I") (by decide +kernel)) (fun _ h9 => h9) rfl dX2_at_4 ?_
      refine rv_icmp_ge (tgt := 37) hx hb (a := i) (b := n) (by omega) (by omega) dX2_at_7 (by decide) (fun c_7 => ?_) (fun c_7 => ?_)
      · refine lv_iconst (v := (-1)) hx hb dX2_at_37 (by decide) ?_
        exact W.iret (v := (-1)) hx hb hr (fun t ht hW => ⟨_, rfl, (show (-1) = oI (s_at n F vp vq) from by rw [s_at_none (show i = n by omega) hq]; rfl), ht⟩) hS.2.2 dX2_at_38
      · exact absurd c_7 (by omega)
    | succ k ih_2 =>
      intro i e_i hq ls hl
      refine lv_iload_n hx hb dX2_at_2 rfl (lv_at hl 0 rfl) ?_
      refine lv_aload_n hx hb dX2_at_3 rfl (lv_at hl 1 rfl) ?_
      refine va_get (D := (dC, dI)) (ci := 2) (v := .int (nI n)) (C := RX2) (T := TX2) (N := 11) hx hb hts hinX2 hown hK hP 0 rfl rfl 1 (by decide) (hts (.fieldLink RX2 43 "WrestleBookModel$State" "wrestlers" "I") (by decide +kernel)) (fun _ h9 => h9) rfl dX2_at_4 ?_
      refine rv_icmp_ge (tgt := 37) hx hb (a := i) (b := n) (by omega) (by omega) dX2_at_7 (by decide) (fun c_7 => ?_) (fun c_7 => ?_)
      · exact absurd c_7 (by omega)
      · refine lv_aload_n hx hb dX2_at_10 rfl (lv_at hl 1 rfl) ?_
        refine va_get (D := (dC, dI)) (ci := 2) (v := .ref (ad 0)) (C := RX2) (T := TX2) (N := 11) hx hb hts hinX2 hown hK hP 0 rfl rfl 5 (by decide) (hts (.fieldLink RX2 15 "WrestleBookModel$State" "league" "[I") (by decide +kernel)) (fun _ h9 => h9) rfl dX2_at_11 ?_
        refine lv_iload_n hx hb dX2_at_14 rfl (lv_at hl 0 rfl) ?_
        refine rv_iald (k := i) hx hb hK hP 1 0 rfl rfl (show i < 12 by omega) (by decide) dX2_at_15 ?_
        refine lv_iload_n hx hb dX2_at_16 rfl (lv_at hl 2 rfl) ?_
        refine lv_icmp_ne (tgt := 31) hx hb dX2_at_17 (by decide) (fun c_17 => ?_) (fun c_17 => ?_)
        · refine lv_iinc (v := nI (i + 1)) (lv' := [(3, .int (nI (i + 1))), (0, .ref h), (1, .int vp), (2, .int vq)]) hx hb dX2_at_31 hl (k := 0) rfl (nI_add i 1) (by decide) rfl (fun ls hl => ?_)
          refine lv_goto (tgt := 2) hx hb dX2_at_34 (by decide) ?_
          exact ih_2 (i + 1) (by omega) (by simp only [s_atU, fo_s] at hq ⊢; rw [hq]; simp [c_7, (show i < n from by omega), c_17]) ls (lv_sub hl [0, 1, 2, 3] rfl)
        · refine lv_aload_n hx hb dX2_at_20 rfl (lv_at hl 1 rfl) ?_
          refine lv_iload_n hx hb dX2_at_21 rfl (lv_at hl 0 rfl) ?_
          refine vp_callSi (W.runV (As := [.int (nI i)]) (rest := []) ⟨hx, hb, hml, hown, hts⟩ (c_X2_place l dC dI cI h ad n F ct i (show i < n by omega) hn) (cwV 1 hts gX2_at_X2_place rfl rfl rfl (by decide +kernel) ⟨Nat.le_of_ble_eq_true rfl, Nat.le_of_ble_eq_true rfl⟩) ⟨PR.blind, va_recv hK hP (ci := 2) (q0 := 0) rfl rfl, fun U hU hW => ⟨rfl, PR.go hP hK hE hS hU hW⟩⟩ rfl rfl hl.1 rfl (lv_room (Nat.le_of_ble_eq_true rfl)) dX2_at_22 ⟨Nat.le_of_ble_eq_true rfl, Nat.le_of_ble_eq_true rfl⟩) (fun r hr0 => ?_)
          subst hr0
          refine lv_iload_n hx hb dX2_at_25 rfl (lv_at hl 3 rfl) ?_
          refine lv_icmp_ne (tgt := 31) hx hb dX2_at_26 (by decide) (fun c_26 => ?_) (fun c_26 => ?_)
          · refine lv_iinc (v := nI (i + 1)) (lv' := [(3, .int (nI (i + 1))), (0, .ref h), (1, .int vp), (2, .int vq)]) hx hb dX2_at_31 hl (k := 0) rfl (nI_add i 1) (by decide) rfl (fun ls hl => ?_)
            refine lv_goto (tgt := 2) hx hb dX2_at_34 (by decide) ?_
            exact ih_2 (i + 1) (by omega) (by simp only [s_atU, fo_s] at hq ⊢; rw [hq]; simp [c_7, (show i < n from by omega), c_17, c_26]) ls (lv_sub hl [0, 1, 2, 3] rfl)
          · refine lv_iload_n hx hb dX2_at_29 rfl (lv_at hl 0 rfl) ?_
            exact W.iret (v := nI i) hx hb hr (fun t ht hW => ⟨_, rfl, (show nI i = oI (s_at n F vp vq) from by rw [s_at_hit hq (show i < n by omega) c_17 c_26]; rfl), ht⟩) hS.2.2 dX2_at_30
  exact L_2 n 0 (by omega) rfl ls (lv_sub hl [0, 1, 2, 3] rfl)

set_option maxHeartbeats 4000000 in
set_option maxRecDepth 100000 in
theorem c_X2_off (l : Launch) (dC : Nat → ClassId) (dI : Nat → Nat → Nat) (cI : ClassId) (h : Nat) (ad : Nat → Nat) (n : Nat) (F : Nat → Nat → Int32) (ct : Nat → Int32) (a : Nat) (i_a : a < n) (b : Nat) (i_b : b < n) (hn : n ≤ 12) (hR : okR n F) : Met l yX2_off wsX2_off ({ frames := 2, cells := 0, slots := 0, locals := 39 } : Room) (va_Pc [.ref h, .int (nI a), .int (nI b)] (fun U => PR dC dI cI (wS h ad cI n F ct) U)) (vp_Si (fun r => r = s_off F a b)) 0 0 (fun _ => False) := by
  refine Met.ofW (cc := cX2_off) (maxL := 3) (ret := (some .int)) (by decide) rfl ?_
  intro p e s m args below meth c s₁ B hml hv
  obtain ⟨rfl, hP, hK, hE⟩ := hv
  have hx := B.exec
  have hb := B.bytes
  have hr := B.returns
  have hts := atoms_spec (ws := wsX2_off) B.pre
  have hown : s.vm.findClass RX2 = some m.cls := findClass_of_methodNamed B.named
  have hlocks := B.notSynchronized
  have hS : va_S (fun _ => False) s.heap s.heap [] := va_S.rf
  have hl := lv_entry ([.ref h, .int (nI a), .int (nI b)]) (n := 3) (Nat.le_of_ble_eq_true rfl)
  rw [lg_entry_eq]
  generalize (lg_sl ([.ref h, .int (nI a), .int (nI b)]) ++ List.replicate (3 - (lg_sl ([.ref h, .int (nI a), .int (nI b)])).length) Slot.unset).toArray = ls at hl ⊢
  have hl : lv_has ls 3 [(0, .ref h), (1, .int (nI a)), (2, .int (nI b))] := hl
  refine lv_aload_n hx hb dX2_off_0 rfl (lv_at hl 0 rfl) ?_
  refine lv_iload_n hx hb dX2_off_1 rfl (lv_at hl 1 rfl) ?_
  refine lv_iload_n hx hb dX2_off_2 rfl (lv_at hl 2 rfl) ?_
  refine vp_callSi (W.runV (As := [.int (nI a), .int (nI b)]) (rest := []) ⟨hx, hb, hml, hown, hts⟩ (c_X2_expected l dC dI cI h ad n F ct a (show a < n by omega) b (show b < n by omega) hn hR) (cwV 2 hts gX2_off_X2_expected rfl rfl rfl (by decide +kernel) ⟨Nat.le_of_ble_eq_true rfl, Nat.le_of_ble_eq_true rfl⟩) ⟨PR.blind, va_recv hK hP (ci := 2) (q0 := 0) rfl rfl, fun U hU hW => ⟨rfl, PR.go hP hK hE hS hU hW⟩⟩ rfl rfl hl.1 rfl (lv_room (Nat.le_of_ble_eq_true rfl)) dX2_off_3 ⟨Nat.le_of_ble_eq_true rfl, Nat.le_of_ble_eq_true rfl⟩) (fun r hr0 => ?_)
  subst hr0
  refine lv_sipush (v := 500) hx hb dX2_off_6 (by decide) ?_
  refine lv_isub hx hb dX2_off_9 ?_
  refine va_mabs hx hb (hml.trans hl.1.symm) hown (hts (.methodLink RX2 56 Lib.Math.abs.name) (by decide +kernel)) (hts (.static Lib.Math.abs.name) (by decide +kernel)) (hts (.initialized "java/lang/Math") (by decide +kernel)) (hts (.code Lib.Math.abs.name Lib.Math.abs.code 1 (some .int)) (by decide +kernel)) (Nat.le_of_ble_eq_true rfl) (Nat.le_of_ble_eq_true rfl) (Nat.zero_le _) (Nat.zero_le _) dX2_off_10 ?_
  refine rv_top (y := s_off F a b) rfl ?_
  exact W.iret (v := s_off F a b) hx hb hr (fun t ht hW => ⟨_, rfl, (show s_off F a b = s_off F a b from by rfl), ht⟩) hS.2.2 dX2_off_13

set_option maxHeartbeats 4000000 in
set_option maxRecDepth 100000 in
theorem c_X2_highest (l : Launch) (dC : Nat → ClassId) (dI : Nat → Nat → Nat) (cI : ClassId) (h : Nat) (ad : Nat → Nat) (n : Nat) (F : Nat → Nat → Int32) (ct : Nat → Int32) (hn : n ≤ 12) : Met l yX2_highest wsX2_highest ({ frames := 1, cells := 0, slots := 0, locals := 13 } : Room) (va_Pc [.ref h] (fun U => PR dC dI cI (wS h ad cI n F ct) U)) (vp_Si (fun r => r = s_hi n F)) 0 0 (fun _ => False) := by
  refine Met.ofW (cc := cX2_highest) (maxL := 3) (ret := (some .int)) (by decide) rfl ?_
  intro p e s m args below meth c s₁ B hml hv
  obtain ⟨rfl, hP, hK, hE⟩ := hv
  have hx := B.exec
  have hb := B.bytes
  have hr := B.returns
  have hts := atoms_spec (ws := wsX2_highest) B.pre
  have hown : s.vm.findClass RX2 = some m.cls := findClass_of_methodNamed B.named
  have hlocks := B.notSynchronized
  have hS : va_S (fun _ => False) s.heap s.heap [] := va_S.rf
  have hinX2 : ∀ w ∈ wsX20, w ∈ wsX2_highest := by decide +kernel
  have hl := lv_entry ([.ref h]) (n := 3) (Nat.le_of_ble_eq_true rfl)
  rw [lg_entry_eq]
  generalize (lg_sl ([.ref h]) ++ List.replicate (3 - (lg_sl ([.ref h])).length) Slot.unset).toArray = ls at hl ⊢
  have hl : lv_has ls 3 [(0, .ref h)] := hl
  refine lv_iconst (v := 0) hx hb dX2_highest_0 (by decide) ?_
  refine lv_istore_n (lv' := [(1, .int 0), (0, .ref h)]) hx hb dX2_highest_1 rfl hl (by decide) rfl (fun ls hl => ?_)
  refine lv_iconst (v := 0) hx hb dX2_highest_2 (by decide) ?_
  refine lv_istore_n (lv' := [(2, .int 0), (1, .int 0), (0, .ref h)]) hx hb dX2_highest_3 rfl hl (by decide) rfl (fun ls hl => ?_)
  have L_4 : ∀ (k i : Nat) (x1 : Int32), i + k = n → x1 = s_hiU F i → ∀ (ls : Array Slot), lv_has ls 3 [(2, .int (nI i)), (1, .int x1), (0, .ref h)] → W p l e (headSpec wsX2_highest ({ frames := 1, cells := 0, slots := 0, locals := 13 } : Room)).room s m ([.ref h] : List Value).toArray below meth c s.heap [] 0 0 (MQ below (vp_Si (fun r => r = s_hi n F)) ([.ref h] : List Value).toArray s 0 0 (fun _ => False)) (F0 m 4 ls []) := by
    intro k
    induction k with
    | zero =>
      intro i x1 e_i hx1 ls hl
      refine lv_iload_n hx hb dX2_highest_4 rfl (lv_at hl 0 rfl) ?_
      refine lv_aload_n hx hb dX2_highest_5 rfl (lv_at hl 2 rfl) ?_
      refine va_get (D := (dC, dI)) (ci := 2) (v := .int (nI n)) (C := RX2) (T := TX2) (N := 11) hx hb hts hinX2 hown hK hP 0 rfl rfl 1 (by decide) (hts (.fieldLink RX2 43 "WrestleBookModel$State" "wrestlers" "I") (by decide +kernel)) (fun _ h9 => h9) rfl dX2_highest_6 ?_
      refine rv_icmp_ge (tgt := 29) hx hb (a := i) (b := n) (by omega) (by omega) dX2_highest_9 (by decide) (fun c_9 => ?_) (fun c_9 => ?_)
      · refine lv_iload_n hx hb dX2_highest_29 rfl (lv_at hl 1 rfl) ?_
        exact W.iret (v := x1) hx hb hr (fun t ht hW => ⟨_, rfl, (show x1 = s_hi n F from by rw [hx1, show i = n by omega]; rfl), ht⟩) hS.2.2 dX2_highest_30
      · exact absurd c_9 (by omega)
    | succ k ih_4 =>
      intro i x1 e_i hx1 ls hl
      refine lv_iload_n hx hb dX2_highest_4 rfl (lv_at hl 0 rfl) ?_
      refine lv_aload_n hx hb dX2_highest_5 rfl (lv_at hl 2 rfl) ?_
      refine va_get (D := (dC, dI)) (ci := 2) (v := .int (nI n)) (C := RX2) (T := TX2) (N := 11) hx hb hts hinX2 hown hK hP 0 rfl rfl 1 (by decide) (hts (.fieldLink RX2 43 "WrestleBookModel$State" "wrestlers" "I") (by decide +kernel)) (fun _ h9 => h9) rfl dX2_highest_6 ?_
      refine rv_icmp_ge (tgt := 29) hx hb (a := i) (b := n) (by omega) (by omega) dX2_highest_9 (by decide) (fun c_9 => ?_) (fun c_9 => ?_)
      · exact absurd c_9 (by omega)
      · refine lv_iload_n hx hb dX2_highest_12 rfl (lv_at hl 1 rfl) ?_
        refine lv_aload_n hx hb dX2_highest_13 rfl (lv_at hl 2 rfl) ?_
        refine va_get (D := (dC, dI)) (ci := 2) (v := .ref (ad 1)) (C := RX2) (T := TX2) (N := 11) hx hb hts hinX2 hown hK hP 0 rfl rfl 4 (by decide) (hts (.fieldLink RX2 9 "WrestleBookModel$State" "rating" "[I") (by decide +kernel)) (fun _ h9 => h9) rfl dX2_highest_14 ?_
        refine lv_iload_n hx hb dX2_highest_17 rfl (lv_at hl 0 rfl) ?_
        refine rv_iald (k := i) hx hb hK hP 2 0 rfl rfl (show i < 12 by omega) (by decide) dX2_highest_18 ?_
        refine va_mmax hx hb (hml.trans hl.1.symm) hown (hts (.methodLink RX2 75 Lib.Math.max.name) (by decide +kernel)) (hts (.static Lib.Math.max.name) (by decide +kernel)) (hts (.initialized "java/lang/Math") (by decide +kernel)) (hts (.code Lib.Math.max.name Lib.Math.max.code 2 (some .int)) (by decide +kernel)) (Nat.le_of_ble_eq_true rfl) (Nat.le_of_ble_eq_true rfl) (Nat.zero_le _) (Nat.zero_le _) dX2_highest_19 ?_
        refine lv_istore_n (lv' := [(1, .int (if x1 < (F 1 i) then (F 1 i) else x1)), (2, .int (nI i)), (0, .ref h)]) hx hb dX2_highest_22 rfl hl (by decide) rfl (fun ls hl => ?_)
        refine lv_iinc (v := nI (i + 1)) (lv' := [(2, .int (nI (i + 1))), (1, .int (if x1 < (F 1 i) then (F 1 i) else x1)), (0, .ref h)]) hx hb dX2_highest_23 hl (k := 1) rfl (nI_add i 1) (by decide) rfl (fun ls hl => ?_)
        refine lv_goto (tgt := 4) hx hb dX2_highest_26 (by decide) ?_
        exact ih_4 (i + 1) (if x1 < (F 1 i) then (F 1 i) else x1) (by omega) (by rw [hx1]; rfl) ls (lv_sub hl [0, 1, 2] rfl)
  exact L_4 n 0 0 (by omega) rfl ls (lv_sub hl [0, 1, 2] rfl)

set_option maxHeartbeats 4000000 in
set_option maxRecDepth 100000 in
theorem c_X2_lowest (l : Launch) (dC : Nat → ClassId) (dI : Nat → Nat → Nat) (cI : ClassId) (h : Nat) (ad : Nat → Nat) (n : Nat) (F : Nat → Nat → Int32) (ct : Nat → Int32) (hn : n ≤ 12) (hR : okR n F) : Met l yX2_lowest wsX2_lowest ({ frames := 2, cells := 0, slots := 0, locals := 35 } : Room) (va_Pc [.ref h] (fun U => PR dC dI cI (wS h ad cI n F ct) U)) (vp_Si (fun r => r = s_lo n F)) 0 0 (fun _ => False) := by
  refine Met.ofW (cc := cX2_lowest) (maxL := 3) (ret := (some .int)) (by decide) rfl ?_
  intro p e s m args below meth c s₁ B hml hv
  obtain ⟨rfl, hP, hK, hE⟩ := hv
  have hx := B.exec
  have hb := B.bytes
  have hr := B.returns
  have hts := atoms_spec (ws := wsX2_lowest) B.pre
  have hown : s.vm.findClass RX2 = some m.cls := findClass_of_methodNamed B.named
  have hlocks := B.notSynchronized
  have hS : va_S (fun _ => False) s.heap s.heap [] := va_S.rf
  have hinX2 : ∀ w ∈ wsX20, w ∈ wsX2_lowest := by decide +kernel
  have hl := lv_entry ([.ref h]) (n := 3) (Nat.le_of_ble_eq_true rfl)
  rw [lg_entry_eq]
  generalize (lg_sl ([.ref h]) ++ List.replicate (3 - (lg_sl ([.ref h])).length) Slot.unset).toArray = ls at hl ⊢
  have hl : lv_has ls 3 [(0, .ref h)] := hl
  refine lv_aload_n hx hb dX2_lowest_0 rfl (lv_at hl 0 rfl) ?_
  refine vp_callSi (W.runV (As := []) (rest := []) ⟨hx, hb, hml, hown, hts⟩ (c_X2_highest l dC dI cI h ad n F ct hn) (cwV 0 hts gX2_lowest_X2_highest rfl rfl rfl (by decide +kernel) ⟨Nat.le_of_ble_eq_true rfl, Nat.le_of_ble_eq_true rfl⟩) ⟨PR.blind, va_recv hK hP (ci := 2) (q0 := 0) rfl rfl, fun U hU hW => ⟨rfl, PR.go hP hK hE hS hU hW⟩⟩ rfl rfl hl.1 rfl (lv_room (Nat.le_of_ble_eq_true rfl)) dX2_lowest_1 ⟨Nat.le_of_ble_eq_true rfl, Nat.le_of_ble_eq_true rfl⟩) (fun r hr0 => ?_)
  subst hr0
  refine lv_istore_n (lv' := [(1, .int (s_hi n F)), (0, .ref h)]) hx hb dX2_lowest_4 rfl hl (by decide) rfl (fun ls hl => ?_)
  refine lv_iconst (v := 0) hx hb dX2_lowest_5 (by decide) ?_
  refine lv_istore_n (lv' := [(2, .int 0), (1, .int (s_hi n F)), (0, .ref h)]) hx hb dX2_lowest_6 rfl hl (by decide) rfl (fun ls hl => ?_)
  have L_7 : ∀ (k i : Nat) (x1 : Int32), i + k = n → x1 = s_loU F (s_hi n F) i → ∀ (ls : Array Slot), lv_has ls 3 [(2, .int (nI i)), (1, .int x1), (0, .ref h)] → W p l e (headSpec wsX2_lowest ({ frames := 2, cells := 0, slots := 0, locals := 35 } : Room)).room s m ([.ref h] : List Value).toArray below meth c s.heap [] 0 0 (MQ below (vp_Si (fun r => r = s_lo n F)) ([.ref h] : List Value).toArray s 0 0 (fun _ => False)) (F0 m 7 ls []) := by
    intro k
    induction k with
    | zero =>
      intro i x1 e_i hx1 ls hl
      refine lv_iload_n hx hb dX2_lowest_7 rfl (lv_at hl 0 rfl) ?_
      refine lv_aload_n hx hb dX2_lowest_8 rfl (lv_at hl 2 rfl) ?_
      refine va_get (D := (dC, dI)) (ci := 2) (v := .int (nI n)) (C := RX2) (T := TX2) (N := 11) hx hb hts hinX2 hown hK hP 0 rfl rfl 1 (by decide) (hts (.fieldLink RX2 43 "WrestleBookModel$State" "wrestlers" "I") (by decide +kernel)) (fun _ h9 => h9) rfl dX2_lowest_9 ?_
      refine rv_icmp_ge (tgt := 32) hx hb (a := i) (b := n) (by omega) (by omega) dX2_lowest_12 (by decide) (fun c_12 => ?_) (fun c_12 => ?_)
      · refine lv_iload_n hx hb dX2_lowest_32 rfl (lv_at hl 1 rfl) ?_
        exact W.iret (v := x1) hx hb hr (fun t ht hW => ⟨_, rfl, (show x1 = s_lo n F from by rw [hx1, show i = n by omega]; exact lo_eq hR), ht⟩) hS.2.2 dX2_lowest_33
      · exact absurd c_12 (by omega)
    | succ k ih_7 =>
      intro i x1 e_i hx1 ls hl
      refine lv_iload_n hx hb dX2_lowest_7 rfl (lv_at hl 0 rfl) ?_
      refine lv_aload_n hx hb dX2_lowest_8 rfl (lv_at hl 2 rfl) ?_
      refine va_get (D := (dC, dI)) (ci := 2) (v := .int (nI n)) (C := RX2) (T := TX2) (N := 11) hx hb hts hinX2 hown hK hP 0 rfl rfl 1 (by decide) (hts (.fieldLink RX2 43 "WrestleBookModel$State" "wrestlers" "I") (by decide +kernel)) (fun _ h9 => h9) rfl dX2_lowest_9 ?_
      refine rv_icmp_ge (tgt := 32) hx hb (a := i) (b := n) (by omega) (by omega) dX2_lowest_12 (by decide) (fun c_12 => ?_) (fun c_12 => ?_)
      · exact absurd c_12 (by omega)
      · refine lv_iload_n hx hb dX2_lowest_15 rfl (lv_at hl 1 rfl) ?_
        refine lv_aload_n hx hb dX2_lowest_16 rfl (lv_at hl 2 rfl) ?_
        refine va_get (D := (dC, dI)) (ci := 2) (v := .ref (ad 1)) (C := RX2) (T := TX2) (N := 11) hx hb hts hinX2 hown hK hP 0 rfl rfl 4 (by decide) (hts (.fieldLink RX2 9 "WrestleBookModel$State" "rating" "[I") (by decide +kernel)) (fun _ h9 => h9) rfl dX2_lowest_17 ?_
        refine lv_iload_n hx hb dX2_lowest_20 rfl (lv_at hl 0 rfl) ?_
        refine rv_iald (k := i) hx hb hK hP 2 0 rfl rfl (show i < 12 by omega) (by decide) dX2_lowest_21 ?_
        refine va_mmin hx hb (hml.trans hl.1.symm) hown (hts (.methodLink RX2 62 Lib.Math.min.name) (by decide +kernel)) (hts (.static Lib.Math.min.name) (by decide +kernel)) (hts (.initialized "java/lang/Math") (by decide +kernel)) (hts (.code Lib.Math.min.name Lib.Math.min.code 2 (some .int)) (by decide +kernel)) (Nat.le_of_ble_eq_true rfl) (Nat.le_of_ble_eq_true rfl) (Nat.zero_le _) (Nat.zero_le _) dX2_lowest_22 ?_
        refine lv_istore_n (lv' := [(1, .int (if (F 1 i) < x1 then (F 1 i) else x1)), (2, .int (nI i)), (0, .ref h)]) hx hb dX2_lowest_25 rfl hl (by decide) rfl (fun ls hl => ?_)
        refine lv_iinc (v := nI (i + 1)) (lv' := [(2, .int (nI (i + 1))), (1, .int (if (F 1 i) < x1 then (F 1 i) else x1)), (0, .ref h)]) hx hb dX2_lowest_26 hl (k := 1) rfl (nI_add i 1) (by decide) rfl (fun ls hl => ?_)
        refine lv_goto (tgt := 7) hx hb dX2_lowest_29 (by decide) ?_
        exact ih_7 (i + 1) (if (F 1 i) < x1 then (F 1 i) else x1) (by omega) (by rw [hx1]; rfl) ls (lv_sub hl [0, 1, 2] rfl)
  exact L_7 n 0 (s_hi n F) (by omega) rfl ls (lv_sub hl [0, 1, 2] rfl)

set_option maxHeartbeats 4000000 in
set_option maxRecDepth 100000 in
theorem c_X2_match (l : Launch) (dC : Nat → ClassId) (dI : Nat → Nat → Nat) (cI : ClassId) (h : Nat) (ad : Nat → Nat) (n : Nat) (F : Nat → Nat → Int32) (ct : Nat → Int32) (w : Nat) (i_w : w < n) (hn : n ≤ 12) (hR : okR n F) : Met l yX2_match wsX2_match ({ frames := 3, cells := 0, slots := 0, locals := 61 } : Room) (va_Pc [.ref h, .int (nI w)] (fun U => PR dC dI cI (wS h ad cI n F ct) U)) (vp_Si (fun r => r = oI (s_match n F w))) 0 0 (fun _ => False) := by
  refine Met.ofW (cc := cX2_match) (maxL := 4) (ret := (some .int)) (by decide) rfl ?_
  intro p e s m args below meth c s₁ B hml hv
  obtain ⟨rfl, hP, hK, hE⟩ := hv
  have hx := B.exec
  have hb := B.bytes
  have hr := B.returns
  have hts := atoms_spec (ws := wsX2_match) B.pre
  have hown : s.vm.findClass RX2 = some m.cls := findClass_of_methodNamed B.named
  have hlocks := B.notSynchronized
  have hS : va_S (fun _ => False) s.heap s.heap [] := va_S.rf
  have hinX2 : ∀ w ∈ wsX20, w ∈ wsX2_match := by decide +kernel
  have hl := lv_entry ([.ref h, .int (nI w)]) (n := 4) (Nat.le_of_ble_eq_true rfl)
  rw [lg_entry_eq]
  generalize (lg_sl ([.ref h, .int (nI w)]) ++ List.replicate (4 - (lg_sl ([.ref h, .int (nI w)])).length) Slot.unset).toArray = ls at hl ⊢
  have hl : lv_has ls 4 [(0, .ref h), (1, .int (nI w))] := hl
  refine lv_iconst (v := (-1)) hx hb dX2_match_0 (by decide) ?_
  refine lv_istore_n (lv' := [(2, .int (-1)), (0, .ref h), (1, .int (nI w))]) hx hb dX2_match_1 rfl hl (by decide) rfl (fun ls hl => ?_)
  refine lv_iconst (v := 0) hx hb dX2_match_2 (by decide) ?_
  refine lv_istore_n (lv' := [(3, .int 0), (2, .int (-1)), (0, .ref h), (1, .int (nI w))]) hx hb dX2_match_3 rfl hl (by decide) rfl (fun ls hl => ?_)
  have L_4 : ∀ (k i : Nat) (o2 : Option Nat), i + k = n → o2 = s_matchU F w i → ∀ (ls : Array Slot), lv_has ls 4 [(3, .int (nI i)), (2, .int (oI o2)), (0, .ref h), (1, .int (nI w))] → W p l e (headSpec wsX2_match ({ frames := 3, cells := 0, slots := 0, locals := 61 } : Room)).room s m ([.ref h, .int (nI w)] : List Value).toArray below meth c s.heap [] 0 0 (MQ below (vp_Si (fun r => r = oI (s_match n F w))) ([.ref h, .int (nI w)] : List Value).toArray s 0 0 (fun _ => False)) (F0 m 4 ls []) := by
    intro k
    induction k with
    | zero =>
      intro i o2 e_i ho2 ls hl
      refine lv_iload_n hx hb dX2_match_4 rfl (lv_at hl 0 rfl) ?_
      refine lv_aload_n hx hb dX2_match_5 rfl (lv_at hl 2 rfl) ?_
      refine va_get (D := (dC, dI)) (ci := 2) (v := .int (nI n)) (C := RX2) (T := TX2) (N := 11) hx hb hts hinX2 hown hK hP 0 rfl rfl 1 (by decide) (hts (.fieldLink RX2 43 "WrestleBookModel$State" "wrestlers" "I") (by decide +kernel)) (fun _ h9 => h9) rfl dX2_match_6 ?_
      refine rv_icmp_ge (tgt := 60) hx hb (a := i) (b := n) (by omega) (by omega) dX2_match_9 (by decide) (fun c_9 => ?_) (fun c_9 => ?_)
      · refine lv_iload_n hx hb dX2_match_60 rfl (lv_at hl 1 rfl) ?_
        exact W.iret (v := oI o2) hx hb hr (fun t ht hW => ⟨_, rfl, (show oI o2 = oI (s_match n F w) from by rw [ho2, show i = n by omega]; rfl), ht⟩) hS.2.2 dX2_match_61
      · exact absurd c_9 (by omega)
    | succ k ih_4 =>
      intro i o2 e_i ho2 ls hl
      refine lv_iload_n hx hb dX2_match_4 rfl (lv_at hl 0 rfl) ?_
      refine lv_aload_n hx hb dX2_match_5 rfl (lv_at hl 2 rfl) ?_
      refine va_get (D := (dC, dI)) (ci := 2) (v := .int (nI n)) (C := RX2) (T := TX2) (N := 11) hx hb hts hinX2 hown hK hP 0 rfl rfl 1 (by decide) (hts (.fieldLink RX2 43 "WrestleBookModel$State" "wrestlers" "I") (by decide +kernel)) (fun _ h9 => h9) rfl dX2_match_6 ?_
      refine rv_icmp_ge (tgt := 60) hx hb (a := i) (b := n) (by omega) (by omega) dX2_match_9 (by decide) (fun c_9 => ?_) (fun c_9 => ?_)
      · exact absurd c_9 (by omega)
      · refine lv_iload_n hx hb dX2_match_12 rfl (lv_at hl 0 rfl) ?_
        refine lv_iload_n hx hb dX2_match_13 rfl (lv_at hl 3 rfl) ?_
        refine rv_icmp_eq (tgt := 54) hx hb (a := i) (b := w) (by omega) (by omega) dX2_match_14 (by decide) (fun c_14 => ?_) (fun c_14 => ?_)
        · refine lv_iinc (v := nI (i + 1)) (lv' := [(3, .int (nI (i + 1))), (2, .int (oI o2)), (0, .ref h), (1, .int (nI w))]) hx hb dX2_match_54 hl (k := 0) rfl (nI_add i 1) (by decide) rfl (fun ls hl => ?_)
          refine lv_goto (tgt := 4) hx hb dX2_match_57 (by decide) ?_
          exact ih_4 (i + 1) o2 (by omega) (by simp only [s_matchU, fo_s] at ho2 ⊢; rw [← ho2]; simp [c_9, (show i < n from by omega), c_14]) ls (lv_sub hl [0, 1, 2, 3] rfl)
        · refine lv_aload_n hx hb dX2_match_17 rfl (lv_at hl 2 rfl) ?_
          refine va_get (D := (dC, dI)) (ci := 2) (v := .ref (ad 0)) (C := RX2) (T := TX2) (N := 11) hx hb hts hinX2 hown hK hP 0 rfl rfl 5 (by decide) (hts (.fieldLink RX2 15 "WrestleBookModel$State" "league" "[I") (by decide +kernel)) (fun _ h9 => h9) rfl dX2_match_18 ?_
          refine lv_iload_n hx hb dX2_match_21 rfl (lv_at hl 0 rfl) ?_
          refine rv_iald (k := i) hx hb hK hP 1 0 rfl rfl (show i < 12 by omega) (by decide) dX2_match_22 ?_
          refine lv_aload_n hx hb dX2_match_23 rfl (lv_at hl 2 rfl) ?_
          refine va_get (D := (dC, dI)) (ci := 2) (v := .ref (ad 0)) (C := RX2) (T := TX2) (N := 11) hx hb hts hinX2 hown hK hP 0 rfl rfl 5 (by decide) (hts (.fieldLink RX2 15 "WrestleBookModel$State" "league" "[I") (by decide +kernel)) (fun _ h9 => h9) rfl dX2_match_24 ?_
          refine lv_iload_n hx hb dX2_match_27 rfl (lv_at hl 3 rfl) ?_
          refine rv_iald (k := w) hx hb hK hP 1 0 rfl rfl (show w < 12 by omega) (by decide) dX2_match_28 ?_
          refine lv_icmp_ne (tgt := 54) hx hb dX2_match_29 (by decide) (fun c_29 => ?_) (fun c_29 => ?_)
          · refine lv_iinc (v := nI (i + 1)) (lv' := [(3, .int (nI (i + 1))), (2, .int (oI o2)), (0, .ref h), (1, .int (nI w))]) hx hb dX2_match_54 hl (k := 0) rfl (nI_add i 1) (by decide) rfl (fun ls hl => ?_)
            refine lv_goto (tgt := 4) hx hb dX2_match_57 (by decide) ?_
            exact ih_4 (i + 1) o2 (by omega) (by simp only [s_matchU, fo_s] at ho2 ⊢; rw [← ho2]; simp [c_9, (show i < n from by omega), c_14, c_29]) ls (lv_sub hl [0, 1, 2, 3] rfl)
          · refine lv_iload_n hx hb dX2_match_32 rfl (lv_at hl 1 rfl) ?_
            rcases o2 with _ | b2
            · refine rv_top (y := -1) rfl ?_
              refine lv_iconst (v := (-1)) hx hb dX2_match_33 (by decide) ?_
              refine lv_icmp_eq (tgt := 52) hx hb dX2_match_34 (by decide) (fun c_34 => ?_) (fun c_34 => ?_)
              · refine lv_iload_n hx hb dX2_match_52 rfl (lv_at hl 0 rfl) ?_
                refine lv_istore_n (lv' := [(2, .int (nI i)), (3, .int (nI i)), (0, .ref h), (1, .int (nI w))]) hx hb dX2_match_53 rfl hl (by decide) rfl (fun ls hl => ?_)
                refine lv_iinc (v := nI (i + 1)) (lv' := [(3, .int (nI (i + 1))), (2, .int (nI i)), (0, .ref h), (1, .int (nI w))]) hx hb dX2_match_54 hl (k := 1) rfl (nI_add i 1) (by decide) rfl (fun ls hl => ?_)
                refine lv_goto (tgt := 4) hx hb dX2_match_57 (by decide) ?_
                exact ih_4 (i + 1) (some i) (by omega) (by simp only [s_matchU, fo_s] at ho2 ⊢; rw [← ho2]; simp [c_9, (show i < n from by omega), c_14, c_29, c_34]) ls (lv_sub hl [0, 1, 2, 3] rfl)
              · exact absurd c_34 (by decide)
            · refine rv_top (y := nI b2) rfl ?_
              have i_b2 : b2 < n := Nat.lt_trans (s_matchU_lt i b2 ho2.symm) (by omega)
              refine lv_iconst (v := (-1)) hx hb dX2_match_33 (by decide) ?_
              refine lv_icmp_eq (tgt := 52) hx hb dX2_match_34 (by decide) (fun c_34 => ?_) (fun c_34 => ?_)
              · exact absurd c_34 (nI_m1 (by omega))
              · refine lv_aload_n hx hb dX2_match_37 rfl (lv_at hl 2 rfl) ?_
                refine lv_iload_n hx hb dX2_match_38 rfl (lv_at hl 3 rfl) ?_
                refine lv_iload_n hx hb dX2_match_39 rfl (lv_at hl 0 rfl) ?_
                refine vp_callSi (W.runV (As := [.int (nI w), .int (nI i)]) (rest := []) ⟨hx, hb, hml, hown, hts⟩ (c_X2_off l dC dI cI h ad n F ct w (show w < n by omega) i (show i < n by omega) hn hR) (cwV 2 hts gX2_match_X2_off rfl rfl rfl (by decide +kernel) ⟨Nat.le_of_ble_eq_true rfl, Nat.le_of_ble_eq_true rfl⟩) ⟨PR.blind, va_recv hK hP (ci := 2) (q0 := 0) rfl rfl, fun U hU hW => ⟨rfl, PR.go hP hK hE hS hU hW⟩⟩ rfl rfl hl.1 rfl (lv_room (Nat.le_of_ble_eq_true rfl)) dX2_match_40 ⟨Nat.le_of_ble_eq_true rfl, Nat.le_of_ble_eq_true rfl⟩) (fun r hr0 => ?_)
                subst hr0
                refine lv_aload_n hx hb dX2_match_43 rfl (lv_at hl 2 rfl) ?_
                refine lv_iload_n hx hb dX2_match_44 rfl (lv_at hl 3 rfl) ?_
                refine lv_iload_n hx hb dX2_match_45 rfl (lv_at hl 1 rfl) ?_
                refine vp_callSi (W.runV (As := [.int (nI w), .int (nI b2)]) (rest := [.int (s_off F w i)]) ⟨hx, hb, hml, hown, hts⟩ (c_X2_off l dC dI cI h ad n F ct w (show w < n by omega) b2 (show b2 < n by omega) hn hR) (cwV 2 hts gX2_match_X2_off rfl rfl rfl (by decide +kernel) ⟨Nat.le_of_ble_eq_true rfl, Nat.le_of_ble_eq_true rfl⟩) ⟨PR.blind, va_recv hK hP (ci := 2) (q0 := 0) rfl rfl, fun U hU hW => ⟨rfl, PR.go hP hK hE hS hU hW⟩⟩ rfl rfl hl.1 rfl (lv_room (Nat.le_of_ble_eq_true rfl)) dX2_match_46 ⟨Nat.le_of_ble_eq_true rfl, Nat.le_of_ble_eq_true rfl⟩) (fun r hr0 => ?_)
                subst hr0
                refine lv_icmp_ge (tgt := 54) hx hb dX2_match_49 (by decide) (fun c_49 => ?_) (fun c_49 => ?_)
                · rw [s_off_comm hR i_w i_b2, s_off_comm hR i_w (show i < n by omega)] at c_49
                  refine lv_iinc (v := nI (i + 1)) (lv' := [(3, .int (nI (i + 1))), (2, .int (nI b2)), (0, .ref h), (1, .int (nI w))]) hx hb dX2_match_54 hl (k := 0) rfl (nI_add i 1) (by decide) rfl (fun ls hl => ?_)
                  refine lv_goto (tgt := 4) hx hb dX2_match_57 (by decide) ?_
                  exact ih_4 (i + 1) (some b2) (by omega) (by simp only [s_matchU, fo_s] at ho2 ⊢; rw [← ho2]; simp [c_9, (show i < n from by omega), c_14, c_29, c_34, c_49]) ls (lv_sub hl [0, 1, 2, 3] rfl)
                · rw [s_off_comm hR i_w i_b2, s_off_comm hR i_w (show i < n by omega)] at c_49
                  refine lv_iload_n hx hb dX2_match_52 rfl (lv_at hl 0 rfl) ?_
                  refine lv_istore_n (lv' := [(2, .int (nI i)), (3, .int (nI i)), (0, .ref h), (1, .int (nI w))]) hx hb dX2_match_53 rfl hl (by decide) rfl (fun ls hl => ?_)
                  refine lv_iinc (v := nI (i + 1)) (lv' := [(3, .int (nI (i + 1))), (2, .int (nI i)), (0, .ref h), (1, .int (nI w))]) hx hb dX2_match_54 hl (k := 1) rfl (nI_add i 1) (by decide) rfl (fun ls hl => ?_)
                  refine lv_goto (tgt := 4) hx hb dX2_match_57 (by decide) ?_
                  exact ih_4 (i + 1) (some i) (by omega) (by simp only [s_matchU, fo_s] at ho2 ⊢; rw [← ho2]; simp [c_9, (show i < n from by omega), c_14, c_29, c_34, c_49]) ls (lv_sub hl [0, 1, 2, 3] rfl)
  exact L_4 n 0 none (by omega) rfl ls (lv_sub hl [0, 1, 2, 3] rfl)
