/-! WrestleBook where nothing is refused -/
set_option maxHeartbeats 4000000 in
set_option maxRecDepth 100000 in
theorem c_X1_checkDifferentK (l : Launch) (dC : Nat → ClassId) (dI : Nat → Nat → Nat) (cI : ClassId)  (va : Int32) (vb : Int32) (hd9 : ¬ va = vb) : Met l yX1_checkDifferent wsX1_checkDifferent ({ frames := 0, cells := 0, slots := 0, locals := 0 } : Room) (va_Pc [.int va, .int vb] (fun U => PR dC dI cI ([]) U)) (va_Sv (fun _ => True)) 0 0 (fun _ => False) := by
  refine Met.ofW (cc := cX1_checkDifferent) (maxL := 2) (ret := none) (by decide) rfl ?_
  intro p e s m args below meth c s₁ B hml hv
  obtain ⟨rfl, hP, hK, hE⟩ := hv
  have hx := B.exec
  have hb := B.bytes
  have hr := B.returns
  have hts := atoms_spec (ws := wsX1_checkDifferent) B.pre
  have hown : s.vm.findClass RX1 = some m.cls := findClass_of_methodNamed B.named
  have hlocks := B.notSynchronized
  have hS : va_S (fun _ => False) s.heap s.heap [] := va_S.rf
  have hthIAE : ∀ w ∈ (vx_atS RX1 31 "java/lang/IllegalArgumentException" ["java/lang/RuntimeException", "java/lang/Exception"]).filter goodWord, w ∈ wsX1_checkDifferent := by decide +kernel
  have hl := lv_entry ([.int va, .int vb]) (n := 2) (Nat.le_of_ble_eq_true rfl)
  rw [lg_entry_eq]
  generalize (lg_sl ([.int va, .int vb]) ++ List.replicate (2 - (lg_sl ([.int va, .int vb])).length) Slot.unset).toArray = ls at hl ⊢
  have hl : lv_has ls 2 [(0, .int va), (1, .int vb)] := hl
  refine lv_iload_n hx hb dX1_checkDifferent_0 rfl (lv_at hl 0 rfl) ?_
  refine lv_iload_n hx hb dX1_checkDifferent_1 rfl (lv_at hl 1 rfl) ?_
  refine lv_icmp_ne (tgt := 15) hx hb dX1_checkDifferent_2 (by decide) (fun c_2 => ?_) (fun c_2 => ?_)
  · exact W.vret hx hb hr (fun t ht hW => ⟨rfl, (by trivial), ht⟩) hS.2.2 dX1_checkDifferent_15
  · exact absurd c_2 hd9

set_option maxHeartbeats 4000000 in
set_option maxRecDepth 100000 in
theorem c_X1_checkResultK (l : Launch) (dC : Nat → ClassId) (dI : Nat → Nat → Nat) (cI : ClassId)  (q : Nat) (hq : q ≤ 2) : Met l yX1_checkResult wsX1_checkResult ({ frames := 0, cells := 0, slots := 0, locals := 0 } : Room) (va_Pc [.int (nI q)] (fun U => PR dC dI cI ([]) U)) (va_Sv (fun _ => True)) 0 0 (fun _ => False) := by
  refine Met.ofW (cc := cX1_checkResult) (maxL := 1) (ret := none) (by decide) rfl ?_
  intro p e s m args below meth c s₁ B hml hv
  obtain ⟨rfl, hP, hK, hE⟩ := hv
  have hx := B.exec
  have hb := B.bytes
  have hr := B.returns
  have hts := atoms_spec (ws := wsX1_checkResult) B.pre
  have hown : s.vm.findClass RX1 = some m.cls := findClass_of_methodNamed B.named
  have hlocks := B.notSynchronized
  have hS : va_S (fun _ => False) s.heap s.heap [] := va_S.rf
  have hthIAE : ∀ w ∈ (vx_atS RX1 31 "java/lang/IllegalArgumentException" ["java/lang/RuntimeException", "java/lang/Exception"]).filter goodWord, w ∈ wsX1_checkResult := by decide +kernel
  have hl := lv_entry ([.int (nI q)]) (n := 1) (Nat.le_of_ble_eq_true rfl)
  rw [lg_entry_eq]
  generalize (lg_sl ([.int (nI q)]) ++ List.replicate (1 - (lg_sl ([.int (nI q)])).length) Slot.unset).toArray = ls at hl ⊢
  have hl : lv_has ls 1 [(0, .int (nI q))] := hl
  refine lv_iload_n hx hb dX1_checkResult_0 rfl (lv_at hl 0 rfl) ?_
  refine lv_if_lt (tgt := 9) hx hb dX1_checkResult_1 (by decide) (fun c_1 => ?_) (fun c_1 => ?_)
  · exact absurd c_1 (nI_pos (by omega))
  · refine lv_iload_n hx hb dX1_checkResult_4 rfl (lv_at hl 0 rfl) ?_
    refine lv_iconst (v := 2) hx hb dX1_checkResult_5 (by decide) ?_
    refine lv_icmp_le (tgt := 19) hx hb dX1_checkResult_6 (by decide) (fun c_6 => ?_) (fun c_6 => ?_)
    · exact W.vret hx hb hr (fun t ht hW => ⟨rfl, (by trivial), ht⟩) hS.2.2 dX1_checkResult_19
    · exact absurd (nI_le (b := 2) hq (by decide)) c_6

set_option maxHeartbeats 4000000 in
set_option maxRecDepth 100000 in
theorem c_X1_expectedK (l : Launch) (dC : Nat → ClassId) (dI : Nat → Nat → Nat) (cI : ClassId) (h r1 : Nat) (d1 : Nat → Nat) (r2 : Nat) (d2 : Nat → Nat) (rc : Nat) (n : Nat) (F : Nat → Nat → Int32) (n2 : Nat) (G : Nat → Nat → Int32) (ct ch : Nat → Int32) (a : Nat) (i_a : a < n) (b : Nat) (i_b : b < n) (hn : n ≤ 12) (hR : okR n F) : Met l yX1_expected wsX1_expected ({ frames := 3, cells := 0, slots := 0, locals := 58 } : Room) (va_Pc [.ref h, .int (nI a), .int (nI b)] (fun U => PR dC dI cI (wB h r1 d1 r2 d2 rc cI n F n2 G ct ch) U)) (vp_Si (fun r => r = s_exp F a b)) 0 0 (fun _ => False) := by
  refine Met.ofW (cc := cX1_expected) (maxL := 3) (ret := (some .int)) (by decide) rfl ?_
  intro p e s m args below meth c s₁ B hml hv
  obtain ⟨rfl, hP, hK, hE⟩ := hv
  have hx := B.exec
  have hb := B.bytes
  have hr := B.returns
  have hts := atoms_spec (ws := wsX1_expected) B.pre
  have hown : s.vm.findClass RX1 = some m.cls := findClass_of_methodNamed B.named
  have hlocks := B.notSynchronized
  have hS : va_S (fun _ => False) s.heap s.heap [] := va_S.rf
  have hinX1 : ∀ w ∈ wsX10, w ∈ wsX1_expected := by decide +kernel
  have hl := lv_entry ([.ref h, .int (nI a), .int (nI b)]) (n := 3) (Nat.le_of_ble_eq_true rfl)
  rw [lg_entry_eq]
  generalize (lg_sl ([.ref h, .int (nI a), .int (nI b)]) ++ List.replicate (3 - (lg_sl ([.ref h, .int (nI a), .int (nI b)])).length) Slot.unset).toArray = ls at hl ⊢
  have hl : lv_has ls 3 [(0, .ref h), (1, .int (nI a)), (2, .int (nI b))] := hl
  refine lv_aload_n hx hb dX1_expected_0 rfl (lv_at hl 0 rfl) ?_
  refine lv_iload_n hx hb dX1_expected_1 rfl (lv_at hl 1 rfl) ?_
  refine va_csv (W.runV (As := [.int (nI a)]) (rest := []) ⟨hx, hb, hml, hown, hts⟩ (c_X1_checkWrestlerK l dC dI cI h r1 d1 r2 d2 rc n F n2 G ct ch a (show a < n by omega) hn) (cwV 1 hts gX1_expected_X1_checkWrestler rfl rfl rfl (by decide +kernel) ⟨Nat.le_of_ble_eq_true rfl, Nat.le_of_ble_eq_true rfl⟩) ⟨PR.blind, va_recv hK hP (ci := 1) (q0 := 0) rfl rfl, fun U hU hW => ⟨rfl, PR.go hP hK hE hS hU hW⟩⟩ rfl rfl hl.1 rfl (lv_room (Nat.le_of_ble_eq_true rfl)) dX1_expected_2 ⟨Nat.le_of_ble_eq_true rfl, Nat.le_of_ble_eq_true rfl⟩) (fun _ => ?_)
  refine lv_aload_n hx hb dX1_expected_5 rfl (lv_at hl 0 rfl) ?_
  refine lv_iload_n hx hb dX1_expected_6 rfl (lv_at hl 2 rfl) ?_
  refine va_csv (W.runV (As := [.int (nI b)]) (rest := []) ⟨hx, hb, hml, hown, hts⟩ (c_X1_checkWrestlerK l dC dI cI h r1 d1 r2 d2 rc n F n2 G ct ch b (show b < n by omega) hn) (cwV 1 hts gX1_expected_X1_checkWrestler rfl rfl rfl (by decide +kernel) ⟨Nat.le_of_ble_eq_true rfl, Nat.le_of_ble_eq_true rfl⟩) ⟨PR.blind, va_recv hK hP (ci := 1) (q0 := 0) rfl rfl, fun U hU hW => ⟨rfl, PR.go hP hK hE hS hU hW⟩⟩ rfl rfl hl.1 rfl (lv_room (Nat.le_of_ble_eq_true rfl)) dX1_expected_7 ⟨Nat.le_of_ble_eq_true rfl, Nat.le_of_ble_eq_true rfl⟩) (fun _ => ?_)
  refine lv_aload_n hx hb dX1_expected_10 rfl (lv_at hl 0 rfl) ?_
  refine va_get (D := (dC, dI)) (ci := 1) (v := .ref r1) (C := RX1) (T := TX1) (N := 6) hx hb hts hinX1 hown hK hP 0 rfl rfl 0 (by decide) (hts (.fieldLink RX1 10 "WrestleBook" "roster" "LWrestleBook$Roster;") (by decide +kernel)) (fun _ h9 => h9) rfl dX1_expected_11 ?_
  refine lv_iload_n hx hb dX1_expected_14 rfl (lv_at hl 1 rfl) ?_
  refine lv_iload_n hx hb dX1_expected_15 rfl (lv_at hl 2 rfl) ?_
  refine vp_callSi (W.runV (As := [.int (nI a), .int (nI b)]) (rest := []) ⟨hx, hb, hml, hown, hts⟩ (c_X0_expectation l dC dI cI r1 d1 n F a (show a < n by omega) b (show b < n by omega) hn hR) (cwV 2 hts gX1_expected_X0_expectation rfl rfl rfl (by decide +kernel) ⟨Nat.le_of_ble_eq_true rfl, Nat.le_of_ble_eq_true rfl⟩) ⟨PR.blind, va_recv hK hP (ci := 0) (q0 := 2) rfl rfl, fun U hU hW => ⟨rfl, PR.go (hP.sub (ws' := (wR r1 d1 cI n F)) [2, 3, 4, 5, 6, 7, 8, 9] rfl) hK hE hS hU hW⟩⟩ rfl rfl hl.1 rfl (lv_room (Nat.le_of_ble_eq_true rfl)) dX1_expected_16 ⟨Nat.le_of_ble_eq_true rfl, Nat.le_of_ble_eq_true rfl⟩) (fun r hr0 => ?_)
  subst hr0
  exact W.iret (v := s_exp F a b) hx hb hr (fun t ht hW => ⟨_, rfl, (show s_exp F a b = s_exp F a b from by rfl), ht⟩) hS.2.2 dX1_expected_19

set_option maxHeartbeats 4000000 in
set_option maxRecDepth 100000 in
theorem c_X1_matchK (l : Launch) (dC : Nat → ClassId) (dI : Nat → Nat → Nat) (cI : ClassId) (h r1 : Nat) (d1 : Nat → Nat) (r2 : Nat) (d2 : Nat → Nat) (rc : Nat) (n : Nat) (F : Nat → Nat → Int32) (n2 : Nat) (G : Nat → Nat → Int32) (ct ch : Nat → Int32) (w : Nat) (i_w : w < n) (hn : n ≤ 12) (hR : okR n F) : Met l yX1_match wsX1_match ({ frames := 5, cells := 0, slots := 0, locals := 103 } : Room) (va_Pc [.ref h, .int (nI w)] (fun U => PR dC dI cI (wB h r1 d1 r2 d2 rc cI n F n2 G ct ch) U)) (vp_Si (fun r => r = oI (s_match n F w))) 0 0 (fun _ => False) := by
  refine Met.ofW (cc := cX1_match) (maxL := 2) (ret := (some .int)) (by decide) rfl ?_
  intro p e s m args below meth c s₁ B hml hv
  obtain ⟨rfl, hP, hK, hE⟩ := hv
  have hx := B.exec
  have hb := B.bytes
  have hr := B.returns
  have hts := atoms_spec (ws := wsX1_match) B.pre
  have hown : s.vm.findClass RX1 = some m.cls := findClass_of_methodNamed B.named
  have hlocks := B.notSynchronized
  have hS : va_S (fun _ => False) s.heap s.heap [] := va_S.rf
  have hinX1 : ∀ w ∈ wsX10, w ∈ wsX1_match := by decide +kernel
  have hl := lv_entry ([.ref h, .int (nI w)]) (n := 2) (Nat.le_of_ble_eq_true rfl)
  rw [lg_entry_eq]
  generalize (lg_sl ([.ref h, .int (nI w)]) ++ List.replicate (2 - (lg_sl ([.ref h, .int (nI w)])).length) Slot.unset).toArray = ls at hl ⊢
  have hl : lv_has ls 2 [(0, .ref h), (1, .int (nI w))] := hl
  refine lv_aload_n hx hb dX1_match_0 rfl (lv_at hl 0 rfl) ?_
  refine lv_iload_n hx hb dX1_match_1 rfl (lv_at hl 1 rfl) ?_
  refine va_csv (W.runV (As := [.int (nI w)]) (rest := []) ⟨hx, hb, hml, hown, hts⟩ (c_X1_checkWrestlerK l dC dI cI h r1 d1 r2 d2 rc n F n2 G ct ch w (show w < n by omega) hn) (cwV 1 hts gX1_match_X1_checkWrestler rfl rfl rfl (by decide +kernel) ⟨Nat.le_of_ble_eq_true rfl, Nat.le_of_ble_eq_true rfl⟩) ⟨PR.blind, va_recv hK hP (ci := 1) (q0 := 0) rfl rfl, fun U hU hW => ⟨rfl, PR.go hP hK hE hS hU hW⟩⟩ rfl rfl hl.1 rfl (lv_room (Nat.le_of_ble_eq_true rfl)) dX1_match_2 ⟨Nat.le_of_ble_eq_true rfl, Nat.le_of_ble_eq_true rfl⟩) (fun _ => ?_)
  refine lv_aload_n hx hb dX1_match_5 rfl (lv_at hl 0 rfl) ?_
  refine va_get (D := (dC, dI)) (ci := 1) (v := .ref r1) (C := RX1) (T := TX1) (N := 6) hx hb hts hinX1 hown hK hP 0 rfl rfl 0 (by decide) (hts (.fieldLink RX1 10 "WrestleBook" "roster" "LWrestleBook$Roster;") (by decide +kernel)) (fun _ h9 => h9) rfl dX1_match_6 ?_
  refine lv_iload_n hx hb dX1_match_9 rfl (lv_at hl 1 rfl) ?_
  refine vp_callSi (W.runV (As := [.int (nI w)]) (rest := []) ⟨hx, hb, hml, hown, hts⟩ (c_X0_evenest l dC dI cI r1 d1 n F w (show w < n by omega) hn hR) (cwV 1 hts gX1_match_X0_evenest rfl rfl rfl (by decide +kernel) ⟨Nat.le_of_ble_eq_true rfl, Nat.le_of_ble_eq_true rfl⟩) ⟨PR.blind, va_recv hK hP (ci := 0) (q0 := 2) rfl rfl, fun U hU hW => ⟨rfl, PR.go (hP.sub (ws' := (wR r1 d1 cI n F)) [2, 3, 4, 5, 6, 7, 8, 9] rfl) hK hE hS hU hW⟩⟩ rfl rfl hl.1 rfl (lv_room (Nat.le_of_ble_eq_true rfl)) dX1_match_10 ⟨Nat.le_of_ble_eq_true rfl, Nat.le_of_ble_eq_true rfl⟩) (fun r hr0 => ?_)
  subst hr0
  exact W.iret (v := oI (s_match n F w)) hx hb hr (fun t ht hW => ⟨_, rfl, (show oI (s_match n F w) = oI (s_match n F w) from by rfl), ht⟩) hS.2.2 dX1_match_13

set_option maxHeartbeats 4000000 in
set_option maxRecDepth 100000 in
theorem c_X1_atK (l : Launch) (dC : Nat → ClassId) (dI : Nat → Nat → Nat) (cI : ClassId) (h r1 : Nat) (d1 : Nat → Nat) (r2 : Nat) (d2 : Nat → Nat) (rc : Nat) (n : Nat) (F : Nat → Nat → Int32) (n2 : Nat) (G : Nat → Nat → Int32) (ct ch : Nat → Int32) (vg : Int32) (vq : Int32) (w : Nat) (hat : s_at n F vg vq = some w) (hlg : s_lg vg = true) (hn : n ≤ 12) : Met l yX1_at wsX1_at ({ frames := 3, cells := 0, slots := 0, locals := 68 } : Room) (va_Pc [.ref h, .int vg, .int vq] (fun U => PR dC dI cI (wB h r1 d1 r2 d2 rc cI n F n2 G ct ch) U)) (vp_Si (fun r => r = nI w)) 0 0 (fun _ => False) := by
  refine Met.ofW (cc := cX1_at) (maxL := 4) (ret := (some .int)) (by decide) rfl ?_
  intro p e s m args below meth c s₁ B hml hv
  obtain ⟨rfl, hP, hK, hE⟩ := hv
  have hx := B.exec
  have hb := B.bytes
  have hr := B.returns
  have hts := atoms_spec (ws := wsX1_at) B.pre
  have hown : s.vm.findClass RX1 = some m.cls := findClass_of_methodNamed B.named
  have hlocks := B.notSynchronized
  have hS : va_S (fun _ => False) s.heap s.heap [] := va_S.rf
  have hinX1 : ∀ w ∈ wsX10, w ∈ wsX1_at := by decide +kernel
  have hthIOB : ∀ w ∈ (vx_atS RX1 125 "java/lang/IndexOutOfBoundsException" ["java/lang/RuntimeException", "java/lang/Exception"]).filter goodWord, w ∈ wsX1_at := by decide +kernel
  have hl := lv_entry ([.ref h, .int vg, .int vq]) (n := 4) (Nat.le_of_ble_eq_true rfl)
  rw [lg_entry_eq]
  generalize (lg_sl ([.ref h, .int vg, .int vq]) ++ List.replicate (4 - (lg_sl ([.ref h, .int vg, .int vq])).length) Slot.unset).toArray = ls at hl ⊢
  have hl : lv_has ls 4 [(0, .ref h), (1, .int vg), (2, .int vq)] := hl
  have i_w : w < n := (s_at_lt n w hat).1
  refine lv_iload_n hx hb dX1_at_0 rfl (lv_at hl 1 rfl) ?_
  refine vp_callSi (W.runS (As := [.int vg]) (rest := []) ⟨hx, hb, hml, hown, hts⟩ (c_X1_isLeague l dC dI cI vg) (va_cwS 1 hts gX1_at_X1_isLeague rfl rfl rfl (by decide +kernel) ⟨Nat.le_of_ble_eq_true rfl, Nat.le_of_ble_eq_true rfl⟩) ⟨PR.blind, fun U hU hW => ⟨rfl, PR.go (vaP_nil) hK hE hS hU hW⟩⟩ rfl rfl hl.1 rfl (lv_room (Nat.le_of_ble_eq_true rfl)) dX1_at_1 ⟨Nat.le_of_ble_eq_true rfl, Nat.le_of_ble_eq_true rfl⟩) (fun r hr0 => ?_)
  subst hr0
  refine rv_ifb_ne (tgt := 17) hx hb dX1_at_4 (by decide) (fun c_4 => ?_) (fun c_4 => ?_)
  · refine lv_aload_n hx hb dX1_at_17 rfl (lv_at hl 0 rfl) ?_
    refine va_get (D := (dC, dI)) (ci := 1) (v := .ref r1) (C := RX1) (T := TX1) (N := 6) hx hb hts hinX1 hown hK hP 0 rfl rfl 0 (by decide) (hts (.fieldLink RX1 10 "WrestleBook" "roster" "LWrestleBook$Roster;") (by decide +kernel)) (fun _ h9 => h9) rfl dX1_at_18 ?_
    refine lv_iload_n hx hb dX1_at_21 rfl (lv_at hl 1 rfl) ?_
    refine lv_iload_n hx hb dX1_at_22 rfl (lv_at hl 2 rfl) ?_
    refine vp_callSi (W.runV (As := [.int vg, .int vq]) (rest := []) ⟨hx, hb, hml, hown, hts⟩ (c_X0_standingAt l dC dI cI r1 d1 n F vg vq hn) (cwV 2 hts gX1_at_X0_standingAt rfl rfl rfl (by decide +kernel) ⟨Nat.le_of_ble_eq_true rfl, Nat.le_of_ble_eq_true rfl⟩) ⟨PR.blind, va_recv hK hP (ci := 0) (q0 := 2) rfl rfl, fun U hU hW => ⟨rfl, PR.go (hP.sub (ws' := (wR r1 d1 cI n F)) [2, 3, 4, 5, 6, 7, 8, 9] rfl) hK hE hS hU hW⟩⟩ rfl rfl hl.1 rfl (lv_room (Nat.le_of_ble_eq_true rfl)) dX1_at_23 ⟨Nat.le_of_ble_eq_true rfl, Nat.le_of_ble_eq_true rfl⟩) (fun r hr0 => ?_)
    subst hr0
    refine rv_top (y := nI w) (by rw [hat]; rfl) ?_
    refine lv_istore_n (lv' := [(3, .int (nI w)), (0, .ref h), (1, .int vg), (2, .int vq)]) hx hb dX1_at_26 rfl hl (by decide) rfl (fun ls hl => ?_)
    refine lv_iload_n hx hb dX1_at_27 rfl (lv_at hl 0 rfl) ?_
    refine lv_iconst (v := (-1)) hx hb dX1_at_28 (by decide) ?_
    refine lv_icmp_ne (tgt := 42) hx hb dX1_at_29 (by decide) (fun c_29 => ?_) (fun c_29 => ?_)
    · refine lv_iload_n hx hb dX1_at_42 rfl (lv_at hl 0 rfl) ?_
      exact W.iret (v := nI w) hx hb hr (fun t ht hW => ⟨_, rfl, (show nI w = nI w from by rfl), ht⟩) hS.2.2 dX1_at_43
    · exact absurd c_29 (nI_m1 (by omega))
  · exact absurd (c_4.symm.trans hlg) (by decide)

set_option maxHeartbeats 4000000 in
set_option maxRecDepth 100000 in
theorem c_X1_wouldK (l : Launch) (dC : Nat → ClassId) (dI : Nat → Nat → Nat) (cI : ClassId) (h r1 : Nat) (d1 : Nat → Nat) (r2 : Nat) (d2 : Nat → Nat) (rc : Nat) (n : Nat) (F : Nat → Nat → Int32) (n2 : Nat) (G : Nat → Nat → Int32) (ct ch : Nat → Int32) (a : Nat) (i_a : a < n) (b : Nat) (i_b : b < n) (q : Nat) (hq : q ≤ 2) (vu : Int32) (hu : vu = 0 ∨ vu = 1) (hab : a ≠ b) (hn : n ≤ 12) (hR : okR n F) : Met l yX1_would wsX1_would ({ frames := 4, cells := 0, slots := 0, locals := 84 } : Room) (va_Pc [.ref h, .int (nI a), .int (nI b), .int (nI q), .int vu] (fun U => PR dC dI cI (wB h r1 d1 r2 d2 rc cI n F n2 G ct ch) U)) (vp_Si (fun r => r = if vu = 0 then s_gain F a b (nI q) else s_gain F b a (nI (2 - q)))) 0 0 (fun _ => False) := by
  refine Met.ofW (cc := cX1_would) (maxL := 5) (ret := (some .int)) (by decide) rfl ?_
  intro p e s m args below meth c s₁ B hml hv
  obtain ⟨rfl, hP, hK, hE⟩ := hv
  have hx := B.exec
  have hb := B.bytes
  have hr := B.returns
  have hts := atoms_spec (ws := wsX1_would) B.pre
  have hown : s.vm.findClass RX1 = some m.cls := findClass_of_methodNamed B.named
  have hlocks := B.notSynchronized
  have hS : va_S (fun _ => False) s.heap s.heap [] := va_S.rf
  have hinX1 : ∀ w ∈ wsX10, w ∈ wsX1_would := by decide +kernel
  have hthIOB : ∀ w ∈ (vx_atS RX1 125 "java/lang/IndexOutOfBoundsException" ["java/lang/RuntimeException", "java/lang/Exception"]).filter goodWord, w ∈ wsX1_would := by decide +kernel
  have hl := lv_entry ([.ref h, .int (nI a), .int (nI b), .int (nI q), .int vu]) (n := 5) (Nat.le_of_ble_eq_true rfl)
  rw [lg_entry_eq]
  generalize (lg_sl ([.ref h, .int (nI a), .int (nI b), .int (nI q), .int vu]) ++ List.replicate (5 - (lg_sl ([.ref h, .int (nI a), .int (nI b), .int (nI q), .int vu])).length) Slot.unset).toArray = ls at hl ⊢
  have hl : lv_has ls 5 [(0, .ref h), (1, .int (nI a)), (2, .int (nI b)), (3, .int (nI q)), (4, .int vu)] := hl
  refine lv_aload_n hx hb dX1_would_0 rfl (lv_at hl 0 rfl) ?_
  refine lv_iload_n hx hb dX1_would_1 rfl (lv_at hl 1 rfl) ?_
  refine va_csv (W.runV (As := [.int (nI a)]) (rest := []) ⟨hx, hb, hml, hown, hts⟩ (c_X1_checkWrestlerK l dC dI cI h r1 d1 r2 d2 rc n F n2 G ct ch a (show a < n by omega) hn) (cwV 1 hts gX1_would_X1_checkWrestler rfl rfl rfl (by decide +kernel) ⟨Nat.le_of_ble_eq_true rfl, Nat.le_of_ble_eq_true rfl⟩) ⟨PR.blind, va_recv hK hP (ci := 1) (q0 := 0) rfl rfl, fun U hU hW => ⟨rfl, PR.go hP hK hE hS hU hW⟩⟩ rfl rfl hl.1 rfl (lv_room (Nat.le_of_ble_eq_true rfl)) dX1_would_2 ⟨Nat.le_of_ble_eq_true rfl, Nat.le_of_ble_eq_true rfl⟩) (fun _ => ?_)
  refine lv_aload_n hx hb dX1_would_5 rfl (lv_at hl 0 rfl) ?_
  refine lv_iload_n hx hb dX1_would_6 rfl (lv_at hl 2 rfl) ?_
  refine va_csv (W.runV (As := [.int (nI b)]) (rest := []) ⟨hx, hb, hml, hown, hts⟩ (c_X1_checkWrestlerK l dC dI cI h r1 d1 r2 d2 rc n F n2 G ct ch b (show b < n by omega) hn) (cwV 1 hts gX1_would_X1_checkWrestler rfl rfl rfl (by decide +kernel) ⟨Nat.le_of_ble_eq_true rfl, Nat.le_of_ble_eq_true rfl⟩) ⟨PR.blind, va_recv hK hP (ci := 1) (q0 := 0) rfl rfl, fun U hU hW => ⟨rfl, PR.go hP hK hE hS hU hW⟩⟩ rfl rfl hl.1 rfl (lv_room (Nat.le_of_ble_eq_true rfl)) dX1_would_7 ⟨Nat.le_of_ble_eq_true rfl, Nat.le_of_ble_eq_true rfl⟩) (fun _ => ?_)
  refine lv_iload hx hb dX1_would_10 (lv_at hl 4 rfl) ?_
  refine lv_if_eq (tgt := 31) hx hb dX1_would_12 (by decide) (fun c_12 => ?_) (fun c_12 => ?_)
  · refine lv_iload_n hx hb dX1_would_31 rfl (lv_at hl 1 rfl) ?_
    refine lv_iload_n hx hb dX1_would_32 rfl (lv_at hl 2 rfl) ?_
    refine va_csv (W.runS (As := [.int (nI a), .int (nI b)]) (rest := []) ⟨hx, hb, hml, hown, hts⟩ (c_X1_checkDifferentK l dC dI cI (nI a) (nI b) (fun z => hab ((nI_eq (by omega) (by omega)).mp z))) (va_cwS 2 hts gX1_would_X1_checkDifferent rfl rfl rfl (by decide +kernel) ⟨Nat.le_of_ble_eq_true rfl, Nat.le_of_ble_eq_true rfl⟩) ⟨PR.blind, fun U hU hW => ⟨rfl, PR.go (vaP_nil) hK hE hS hU hW⟩⟩ rfl rfl hl.1 rfl (lv_room (Nat.le_of_ble_eq_true rfl)) dX1_would_33 ⟨Nat.le_of_ble_eq_true rfl, Nat.le_of_ble_eq_true rfl⟩) (fun _ => ?_)
    refine lv_iload_n hx hb dX1_would_36 rfl (lv_at hl 3 rfl) ?_
    refine va_csv (W.runS (As := [.int (nI q)]) (rest := []) ⟨hx, hb, hml, hown, hts⟩ (c_X1_checkResultK l dC dI cI q hq) (va_cwS 1 hts gX1_would_X1_checkResult rfl rfl rfl (by decide +kernel) ⟨Nat.le_of_ble_eq_true rfl, Nat.le_of_ble_eq_true rfl⟩) ⟨PR.blind, fun U hU hW => ⟨rfl, PR.go (vaP_nil) hK hE hS hU hW⟩⟩ rfl rfl hl.1 rfl (lv_room (Nat.le_of_ble_eq_true rfl)) dX1_would_37 ⟨Nat.le_of_ble_eq_true rfl, Nat.le_of_ble_eq_true rfl⟩) (fun _ => ?_)
    refine lv_iload hx hb dX1_would_40 (lv_at hl 4 rfl) ?_
    refine lv_if_ne (tgt := 58) hx hb dX1_would_42 (by decide) (fun c_42 => ?_) (fun c_42 => ?_)
    · exact absurd c_12 c_42
    · refine lv_aload_n hx hb dX1_would_45 rfl (lv_at hl 0 rfl) ?_
      refine va_get (D := (dC, dI)) (ci := 1) (v := .ref r1) (C := RX1) (T := TX1) (N := 6) hx hb hts hinX1 hown hK hP 0 rfl rfl 0 (by decide) (hts (.fieldLink RX1 10 "WrestleBook" "roster" "LWrestleBook$Roster;") (by decide +kernel)) (fun _ h9 => h9) rfl dX1_would_46 ?_
      refine lv_iload_n hx hb dX1_would_49 rfl (lv_at hl 1 rfl) ?_
      refine lv_iload_n hx hb dX1_would_50 rfl (lv_at hl 2 rfl) ?_
      refine lv_iload_n hx hb dX1_would_51 rfl (lv_at hl 3 rfl) ?_
      refine vp_callSi (W.runV (As := [.int (nI a), .int (nI b), .int (nI q)]) (rest := []) ⟨hx, hb, hml, hown, hts⟩ (c_X0_gain l dC dI cI r1 d1 n F a (show a < n by omega) b (show b < n by omega) (nI q) hn hR) (cwV 3 hts gX1_would_X0_gain rfl rfl rfl (by decide +kernel) ⟨Nat.le_of_ble_eq_true rfl, Nat.le_of_ble_eq_true rfl⟩) ⟨PR.blind, va_recv hK hP (ci := 0) (q0 := 2) rfl rfl, fun U hU hW => ⟨rfl, PR.go (hP.sub (ws' := (wR r1 d1 cI n F)) [2, 3, 4, 5, 6, 7, 8, 9] rfl) hK hE hS hU hW⟩⟩ rfl rfl hl.1 rfl (lv_room (Nat.le_of_ble_eq_true rfl)) dX1_would_52 ⟨Nat.le_of_ble_eq_true rfl, Nat.le_of_ble_eq_true rfl⟩) (fun r hr0 => ?_)
      subst hr0
      refine lv_goto (tgt := 70) hx hb dX1_would_55 (by decide) ?_
      exact W.iret (v := s_gain F a b (nI q)) hx hb hr (fun t ht hW => ⟨_, rfl, (show s_gain F a b (nI q) = if vu = 0 then s_gain F a b (nI q) else s_gain F b a (nI (2 - q)) from by rw [if_pos c_42]), ht⟩) hS.2.2 dX1_would_70
  · refine lv_iload hx hb dX1_would_15 (lv_at hl 4 rfl) ?_
    refine lv_iconst (v := 1) hx hb dX1_would_17 (by decide) ?_
    refine lv_icmp_eq (tgt := 31) hx hb dX1_would_18 (by decide) (fun c_18 => ?_) (fun c_18 => ?_)
    · refine lv_iload_n hx hb dX1_would_31 rfl (lv_at hl 1 rfl) ?_
      refine lv_iload_n hx hb dX1_would_32 rfl (lv_at hl 2 rfl) ?_
      refine va_csv (W.runS (As := [.int (nI a), .int (nI b)]) (rest := []) ⟨hx, hb, hml, hown, hts⟩ (c_X1_checkDifferentK l dC dI cI (nI a) (nI b) (fun z => hab ((nI_eq (by omega) (by omega)).mp z))) (va_cwS 2 hts gX1_would_X1_checkDifferent rfl rfl rfl (by decide +kernel) ⟨Nat.le_of_ble_eq_true rfl, Nat.le_of_ble_eq_true rfl⟩) ⟨PR.blind, fun U hU hW => ⟨rfl, PR.go (vaP_nil) hK hE hS hU hW⟩⟩ rfl rfl hl.1 rfl (lv_room (Nat.le_of_ble_eq_true rfl)) dX1_would_33 ⟨Nat.le_of_ble_eq_true rfl, Nat.le_of_ble_eq_true rfl⟩) (fun _ => ?_)
      refine lv_iload_n hx hb dX1_would_36 rfl (lv_at hl 3 rfl) ?_
      refine va_csv (W.runS (As := [.int (nI q)]) (rest := []) ⟨hx, hb, hml, hown, hts⟩ (c_X1_checkResultK l dC dI cI q hq) (va_cwS 1 hts gX1_would_X1_checkResult rfl rfl rfl (by decide +kernel) ⟨Nat.le_of_ble_eq_true rfl, Nat.le_of_ble_eq_true rfl⟩) ⟨PR.blind, fun U hU hW => ⟨rfl, PR.go (vaP_nil) hK hE hS hU hW⟩⟩ rfl rfl hl.1 rfl (lv_room (Nat.le_of_ble_eq_true rfl)) dX1_would_37 ⟨Nat.le_of_ble_eq_true rfl, Nat.le_of_ble_eq_true rfl⟩) (fun _ => ?_)
      refine lv_iload hx hb dX1_would_40 (lv_at hl 4 rfl) ?_
      refine lv_if_ne (tgt := 58) hx hb dX1_would_42 (by decide) (fun c_42 => ?_) (fun c_42 => ?_)
      · refine lv_aload_n hx hb dX1_would_58 rfl (lv_at hl 0 rfl) ?_
        refine va_get (D := (dC, dI)) (ci := 1) (v := .ref r1) (C := RX1) (T := TX1) (N := 6) hx hb hts hinX1 hown hK hP 0 rfl rfl 0 (by decide) (hts (.fieldLink RX1 10 "WrestleBook" "roster" "LWrestleBook$Roster;") (by decide +kernel)) (fun _ h9 => h9) rfl dX1_would_59 ?_
        refine lv_iload_n hx hb dX1_would_62 rfl (lv_at hl 2 rfl) ?_
        refine lv_iload_n hx hb dX1_would_63 rfl (lv_at hl 1 rfl) ?_
        refine lv_iconst (v := 2) hx hb dX1_would_64 (by decide) ?_
        refine lv_iload_n hx hb dX1_would_65 rfl (lv_at hl 3 rfl) ?_
        refine lv_isub hx hb dX1_would_66 ?_
        refine rv_top (y := nI (2 - q)) (pk_sub (a := 2) hq) ?_
        refine vp_callSi (W.runV (As := [.int (nI b), .int (nI a), .int (nI (2 - q))]) (rest := []) ⟨hx, hb, hml, hown, hts⟩ (c_X0_gain l dC dI cI r1 d1 n F b (show b < n by omega) a (show a < n by omega) (nI (2 - q)) hn hR) (cwV 3 hts gX1_would_X0_gain rfl rfl rfl (by decide +kernel) ⟨Nat.le_of_ble_eq_true rfl, Nat.le_of_ble_eq_true rfl⟩) ⟨PR.blind, va_recv hK hP (ci := 0) (q0 := 2) rfl rfl, fun U hU hW => ⟨rfl, PR.go (hP.sub (ws' := (wR r1 d1 cI n F)) [2, 3, 4, 5, 6, 7, 8, 9] rfl) hK hE hS hU hW⟩⟩ rfl rfl hl.1 rfl (lv_room (Nat.le_of_ble_eq_true rfl)) dX1_would_67 ⟨Nat.le_of_ble_eq_true rfl, Nat.le_of_ble_eq_true rfl⟩) (fun r hr0 => ?_)
        subst hr0
        exact W.iret (v := s_gain F b a (nI (2 - q))) hx hb hr (fun t ht hW => ⟨_, rfl, (show s_gain F b a (nI (2 - q)) = if vu = 0 then s_gain F a b (nI q) else s_gain F b a (nI (2 - q)) from by rw [if_neg c_42]), ht⟩) hS.2.2 dX1_would_70
      · exact absurd c_42 c_12
    · exact absurd (hu.resolve_left c_12) c_18

set_option maxHeartbeats 4000000 in
set_option maxRecDepth 100000 in
theorem c_X1_rateK (l : Launch) (dC : Nat → ClassId) (dI : Nat → Nat → Nat) (cI : ClassId) (h r1 : Nat) (d1 : Nat → Nat) (r2 : Nat) (d2 : Nat → Nat) (rc : Nat) (n : Nat) (F : Nat → Nat → Int32) (n2 : Nat) (G : Nat → Nat → Int32) (ct ch : Nat → Int32) (sz : Nat) (a : Nat) (i_a : a < n) (r : Nat) (hr1 : 100 ≤ r) (hr2 : r ≤ 3000) (hn : n ≤ 12) : Met l yX1_rate wsX1_rate ({ frames := 2, cells := 0, slots := 0, locals := 42 } : Room) (va_Pc [.ref h, .int (nI a), .int (nI r)] (fun U => PW dC dI cI (wB h r1 d1 r2 d2 rc cI n F n2 G ct ch) sz U)) (va_Qi (fun r (_ : Unit) => r = F 1 a) (BW dC dI (va_A (wB h r1 d1 r2 d2 rc cI n F n2 G ct ch) sz) (wB h r1 d1 r2 d2 rc cI n (s_set F a (nI r)) n2 G ct ch)) (va_A (wB h r1 d1 r2 d2 rc cI n F n2 G ct ch) sz)) 0 0 (va_A (wB h r1 d1 r2 d2 rc cI n F n2 G ct ch) sz) := by
  refine Met.ofW (cc := cX1_rate) (maxL := 4) (ret := (some .int)) (by decide) rfl ?_
  intro p e s m args below meth c s₁ B hml hv
  obtain ⟨rfl, hsz, hP, hK, hD0, hE⟩ := hv
  have hx := B.exec
  have hb := B.bytes
  have hr := B.returns
  have hts := atoms_spec (ws := wsX1_rate) B.pre
  have hown : s.vm.findClass RX1 = some m.cls := findClass_of_methodNamed B.named
  have hlocks := B.notSynchronized
  subst hsz
  have hD := hD0.self (sz := s.heap.size)
  generalize hAe : va_A (wB h r1 d1 r2 d2 rc cI n F n2 G ct ch) s.heap.size = A at hD hE ⊢
  have hA : ∀ q : Nat, s.heap.size ≤ q → A q := fun q h9 => by rw [← hAe]; exact Or.inr h9
  have hS : va_S A s.heap s.heap [] := va_S.rf
  have hinX1 : ∀ w ∈ wsX10, w ∈ wsX1_rate := by decide +kernel
  have hthIAE : ∀ w ∈ (vx_atS RX1 31 "java/lang/IllegalArgumentException" ["java/lang/RuntimeException", "java/lang/Exception"]).filter goodWord, w ∈ wsX1_rate := by decide +kernel
  have hl := lv_entry ([.ref h, .int (nI a), .int (nI r)]) (n := 4) (Nat.le_of_ble_eq_true rfl)
  rw [lg_entry_eq]
  generalize (lg_sl ([.ref h, .int (nI a), .int (nI r)]) ++ List.replicate (4 - (lg_sl ([.ref h, .int (nI a), .int (nI r)])).length) Slot.unset).toArray = ls at hl ⊢
  have hl : lv_has ls 4 [(0, .ref h), (1, .int (nI a)), (2, .int (nI r))] := hl
  refine lv_aload_n hx hb dX1_rate_0 rfl (lv_at hl 0 rfl) ?_
  refine lv_iload_n hx hb dX1_rate_1 rfl (lv_at hl 1 rfl) ?_
  refine va_csv (W.runV (As := [.int (nI a)]) (rest := []) ⟨hx, hb, hml, hown, hts⟩ (c_X1_checkWrestlerK l dC dI cI h r1 d1 r2 d2 rc n F n2 G ct ch a (show a < n by omega) hn) (cwV 1 hts gX1_rate_X1_checkWrestler rfl rfl rfl (by decide +kernel) ⟨Nat.le_of_ble_eq_true rfl, Nat.le_of_ble_eq_true rfl⟩) ⟨PR.blind, va_recv hK hP (ci := 1) (q0 := 0) rfl rfl, fun U hU hW => ⟨rfl, PR.go hP hK hE hS hU hW⟩⟩ rfl rfl hl.1 rfl (lv_room (Nat.le_of_ble_eq_true rfl)) dX1_rate_2 ⟨Nat.le_of_ble_eq_true rfl, Nat.le_of_ble_eq_true rfl⟩) (fun _ => ?_)
  refine lv_iload_n hx hb dX1_rate_5 rfl (lv_at hl 2 rfl) ?_
  refine lv_bipush (v := 100) hx hb dX1_rate_6 (by decide) ?_
  refine lv_icmp_lt (tgt := 18) hx hb dX1_rate_8 (by decide) (fun c_8 => ?_) (fun c_8 => ?_)
  · exact absurd c_8 (nI_nlt (b := 100) hr1 (by omega))
  · refine lv_iload_n hx hb dX1_rate_11 rfl (lv_at hl 2 rfl) ?_
    refine lv_sipush (v := 3000) hx hb dX1_rate_12 (by decide) ?_
    refine lv_icmp_le (tgt := 28) hx hb dX1_rate_15 (by decide) (fun c_15 => ?_) (fun c_15 => ?_)
    · refine lv_aload_n hx hb dX1_rate_28 rfl (lv_at hl 0 rfl) ?_
      refine va_get (D := (dC, dI)) (ci := 1) (v := .ref r1) (C := RX1) (T := TX1) (N := 6) hx hb hts hinX1 hown hK hP 0 rfl rfl 0 (by decide) (hts (.fieldLink RX1 10 "WrestleBook" "roster" "LWrestleBook$Roster;") (by decide +kernel)) (fun _ h9 => h9) rfl dX1_rate_29 ?_
      refine lv_iload_n hx hb dX1_rate_32 rfl (lv_at hl 1 rfl) ?_
      refine vp_callSi (W.runV (As := [.int (nI a)]) (rest := []) ⟨hx, hb, hml, hown, hts⟩ (c_X0_rating l dC dI cI r1 d1 n F a (show a < n by omega) hn) (cwV 1 hts gX1_rate_X0_rating rfl rfl rfl (by decide +kernel) ⟨Nat.le_of_ble_eq_true rfl, Nat.le_of_ble_eq_true rfl⟩) ⟨PR.blind, va_recv hK hP (ci := 0) (q0 := 2) rfl rfl, fun U hU hW => ⟨rfl, PR.go (hP.sub (ws' := (wR r1 d1 cI n F)) [2, 3, 4, 5, 6, 7, 8, 9] rfl) hK hE hS hU hW⟩⟩ rfl rfl hl.1 rfl (lv_room (Nat.le_of_ble_eq_true rfl)) dX1_rate_33 ⟨Nat.le_of_ble_eq_true rfl, Nat.le_of_ble_eq_true rfl⟩) (fun r hr0 => ?_)
      subst hr0
      refine lv_istore_n (lv' := [(3, .int (F 1 a)), (0, .ref h), (1, .int (nI a)), (2, .int (nI r))]) hx hb dX1_rate_36 rfl hl (by decide) rfl (fun ls hl => ?_)
      refine lv_aload_n hx hb dX1_rate_37 rfl (lv_at hl 1 rfl) ?_
      refine va_get (D := (dC, dI)) (ci := 1) (v := .ref r1) (C := RX1) (T := TX1) (N := 6) hx hb hts hinX1 hown hK hP 0 rfl rfl 0 (by decide) (hts (.fieldLink RX1 10 "WrestleBook" "roster" "LWrestleBook$Roster;") (by decide +kernel)) (fun _ h9 => h9) rfl dX1_rate_38 ?_
      refine lv_iload_n hx hb dX1_rate_41 rfl (lv_at hl 2 rfl) ?_
      refine lv_iload_n hx hb dX1_rate_42 rfl (lv_at hl 3 rfl) ?_
      have hPc := hP.sub (ws' := (wR r1 d1 cI n F)) [2, 3, 4, 5, 6, 7, 8, 9] rfl
      have hDc := hD.sub (ws' := (wR r1 d1 cI n F)) [2, 3, 4, 5, 6, 7, 8, 9] (by decide) rfl
      have hFc := va_free (wc := (wR r1 d1 cI n F)) hD hS hA [2, 3, 4, 5, 6, 7, 8, 9] rfl
      refine va_callv (va_runV (As := [.int (nI a), .int (nI r)]) (rest := []) ⟨hx, hb, hml, hown, hts⟩ (c_X0_setRating l dC dI cI r1 d1 n F s.heap.size a (show a < n by omega) (nI r) hn) (cwV 2 hts gX1_rate_X0_setRating rfl rfl rfl (by decide +kernel) ⟨Nat.le_of_ble_eq_true rfl, Nat.le_of_ble_eq_true rfl⟩) ⟨PW.blind, va_recv hK hP (ci := 0) (q0 := 2) rfl rfl, fun U hU hW => ⟨rfl, PW.go hPc hK hDc hE hS hFc hU hW⟩⟩ rfl rfl hl.1 rfl (lv_room (Nat.le_of_ble_eq_true rfl)) dX1_rate_43 ⟨Nat.le_of_ble_eq_true rfl, Nat.le_of_ble_eq_true rfl⟩) hS (fun q _ h9 => hFc q h9) hFc (fun u9 t9 H1 locs ht9 hvm9 hw9 hB9 hz9 hk9 hS => ?_)
      obtain ⟨hP9, hD9⟩ := hB9
      rw [ht9] at hP9
      obtain ⟨hP, hD⟩ := va_join (wr := ([(h, .inr (1, [.ref r1, .ref r2, .ref rc, .int (ct 0), .int (ct 1), .int (ct 2)])), (rc, .inl (cI, 10, .inl (ch))), (r2, .inr (0, [.ref (d2 0), .ref (d2 1), .ref (d2 2), .ref (d2 3), .ref (d2 4), .ref (d2 5), .ref (d2 6), .int (nI n2)])), (d2 0, .inl (cI, 12, .inl (G 0))), (d2 1, .inl (cI, 12, .inl (G 1))), (d2 2, .inl (cI, 12, .inl (G 2))), (d2 3, .inl (cI, 12, .inl (G 3))), (d2 4, .inl (cI, 12, .inl (G 4))), (d2 5, .inl (cI, 12, .inl (G 5))), (d2 6, .inl (cI, 12, .inl (G 6)))] : va_W)) (w1 := wR r1 d1 cI n (s_set F a (nI r))) hP hD [2, 3, 4, 5, 6, 7, 8, 9] [0, 1, 10, 11, 12, 13, 14, 15, 16, 17] rfl rfl (by decide) (by decide) hk9 hFc hP9 hD9
      generalize H1 = H at hP hS ⊢
      have hP := hP.sub (ws' := wB h r1 d1 r2 d2 rc cI n (s_set F a (nI r)) n2 G ct ch) [0, 1, 10, 11, 12, 13, 14, 15, 16, 17, 2, 3, 4, 5, 6, 7, 8, 9] rfl
      have hD := hD.sub (ws' := wB h r1 d1 r2 d2 rc cI n (s_set F a (nI r)) n2 G ct ch) [0, 1, 10, 11, 12, 13, 14, 15, 16, 17, 2, 3, 4, 5, 6, 7, 8, 9] (by decide) rfl
      have hP : va_P (dC, dI) vwCl (wB h r1 d1 r2 d2 rc cI n (s_set F a (nI r)) n2 G ct ch) H := hP
      have hD : va_D A (wB h r1 d1 r2 d2 rc cI n (s_set F a (nI r)) n2 G ct ch) := hD
      refine lv_iload_n hx hb dX1_rate_46 rfl (lv_at hl 0 rfl) ?_
      have hP8 : va_P (dC, dI) vwCl (wB h r1 d1 r2 d2 rc cI n (s_set F a (nI r)) n2 G ct ch) H := hP
      have hD8 : va_D A (wB h r1 d1 r2 d2 rc cI n (s_set F a (nI r)) n2 G ct ch) := hD
      exact W.iret (v := F 1 a) hx hb hr (fun t ht hW => ⟨⟨_, (), rfl, (show F 1 a = F 1 a from by rfl), by rw [ht]; exact hP8, hD8⟩, hS.F ht⟩) hS.2.2 dX1_rate_47
    · exact absurd (nI_le (b := 3000) hr2 (by decide)) c_15

set_option maxHeartbeats 4000000 in
set_option maxRecDepth 100000 in
theorem c_X1_boutK (l : Launch) (dC : Nat → ClassId) (dI : Nat → Nat → Nat) (cI : ClassId) (h r1 : Nat) (d1 : Nat → Nat) (r2 : Nat) (d2 : Nat → Nat) (rc : Nat) (n : Nat) (F : Nat → Nat → Int32) (n2 : Nat) (G : Nat → Nat → Int32) (ct ch : Nat → Int32) (sz : Nat) (a : Nat) (i_a : a < n) (b : Nat) (i_b : b < n) (q : Nat) (hq : q ≤ 2) (hab : a ≠ b) (hn : n ≤ 12) (hR : okR n F) : Met l yX1_bout wsX1_bout ({ frames := 5, cells := 0, slots := 0, locals := 109 } : Room) (va_Pc [.ref h, .int (nI a), .int (nI b), .int (nI q)] (fun U => PW dC dI cI (wB h r1 d1 r2 d2 rc cI n F n2 G ct ch) sz U)) (va_Qi (fun r (_ : Unit) => r = s_gain F a b (nI q)) (BW dC dI (va_A (wB h r1 d1 r2 d2 rc cI n F n2 G ct ch) sz) (wB h r1 d1 r2 d2 rc cI n (s_hold F a b q) n2 G (s_ct ct F a b q) ch)) (va_A (wB h r1 d1 r2 d2 rc cI n F n2 G ct ch) sz)) 0 0 (va_A (wB h r1 d1 r2 d2 rc cI n F n2 G ct ch) sz) := by
  refine Met.ofW (cc := cX1_bout) (maxL := 4) (ret := (some .int)) (by decide) rfl ?_
  intro p e s m args below meth c s₁ B hml hv
  obtain ⟨rfl, hsz, hP, hK, hD0, hE⟩ := hv
  have hx := B.exec
  have hb := B.bytes
  have hr := B.returns
  have hts := atoms_spec (ws := wsX1_bout) B.pre
  have hown : s.vm.findClass RX1 = some m.cls := findClass_of_methodNamed B.named
  have hlocks := B.notSynchronized
  subst hsz
  have hD := hD0.self (sz := s.heap.size)
  generalize hAe : va_A (wB h r1 d1 r2 d2 rc cI n F n2 G ct ch) s.heap.size = A at hD hE ⊢
  have hA : ∀ q : Nat, s.heap.size ≤ q → A q := fun q h9 => by rw [← hAe]; exact Or.inr h9
  have hS : va_S A s.heap s.heap [] := va_S.rf
  have hinX1 : ∀ w ∈ wsX10, w ∈ wsX1_bout := by decide +kernel
  have hl := lv_entry ([.ref h, .int (nI a), .int (nI b), .int (nI q)]) (n := 4) (Nat.le_of_ble_eq_true rfl)
  rw [lg_entry_eq]
  generalize (lg_sl ([.ref h, .int (nI a), .int (nI b), .int (nI q)]) ++ List.replicate (4 - (lg_sl ([.ref h, .int (nI a), .int (nI b), .int (nI q)])).length) Slot.unset).toArray = ls at hl ⊢
  have hl : lv_has ls 4 [(0, .ref h), (1, .int (nI a)), (2, .int (nI b)), (3, .int (nI q))] := hl
  refine lv_aload_n hx hb dX1_bout_0 rfl (lv_at hl 0 rfl) ?_
  refine lv_iload_n hx hb dX1_bout_1 rfl (lv_at hl 1 rfl) ?_
  refine va_csv (W.runV (As := [.int (nI a)]) (rest := []) ⟨hx, hb, hml, hown, hts⟩ (c_X1_checkWrestlerK l dC dI cI h r1 d1 r2 d2 rc n F n2 G ct ch a (show a < n by omega) hn) (cwV 1 hts gX1_bout_X1_checkWrestler rfl rfl rfl (by decide +kernel) ⟨Nat.le_of_ble_eq_true rfl, Nat.le_of_ble_eq_true rfl⟩) ⟨PR.blind, va_recv hK hP (ci := 1) (q0 := 0) rfl rfl, fun U hU hW => ⟨rfl, PR.go hP hK hE hS hU hW⟩⟩ rfl rfl hl.1 rfl (lv_room (Nat.le_of_ble_eq_true rfl)) dX1_bout_2 ⟨Nat.le_of_ble_eq_true rfl, Nat.le_of_ble_eq_true rfl⟩) (fun _ => ?_)
  refine lv_aload_n hx hb dX1_bout_5 rfl (lv_at hl 0 rfl) ?_
  refine lv_iload_n hx hb dX1_bout_6 rfl (lv_at hl 2 rfl) ?_
  refine va_csv (W.runV (As := [.int (nI b)]) (rest := []) ⟨hx, hb, hml, hown, hts⟩ (c_X1_checkWrestlerK l dC dI cI h r1 d1 r2 d2 rc n F n2 G ct ch b (show b < n by omega) hn) (cwV 1 hts gX1_bout_X1_checkWrestler rfl rfl rfl (by decide +kernel) ⟨Nat.le_of_ble_eq_true rfl, Nat.le_of_ble_eq_true rfl⟩) ⟨PR.blind, va_recv hK hP (ci := 1) (q0 := 0) rfl rfl, fun U hU hW => ⟨rfl, PR.go hP hK hE hS hU hW⟩⟩ rfl rfl hl.1 rfl (lv_room (Nat.le_of_ble_eq_true rfl)) dX1_bout_7 ⟨Nat.le_of_ble_eq_true rfl, Nat.le_of_ble_eq_true rfl⟩) (fun _ => ?_)
  refine lv_iload_n hx hb dX1_bout_10 rfl (lv_at hl 1 rfl) ?_
  refine lv_iload_n hx hb dX1_bout_11 rfl (lv_at hl 2 rfl) ?_
  refine va_csv (W.runS (As := [.int (nI a), .int (nI b)]) (rest := []) ⟨hx, hb, hml, hown, hts⟩ (c_X1_checkDifferentK l dC dI cI (nI a) (nI b) (fun z => hab ((nI_eq (by omega) (by omega)).mp z))) (va_cwS 2 hts gX1_bout_X1_checkDifferent rfl rfl rfl (by decide +kernel) ⟨Nat.le_of_ble_eq_true rfl, Nat.le_of_ble_eq_true rfl⟩) ⟨PR.blind, fun U hU hW => ⟨rfl, PR.go (vaP_nil) hK hE hS hU hW⟩⟩ rfl rfl hl.1 rfl (lv_room (Nat.le_of_ble_eq_true rfl)) dX1_bout_12 ⟨Nat.le_of_ble_eq_true rfl, Nat.le_of_ble_eq_true rfl⟩) (fun _ => ?_)
  refine lv_iload_n hx hb dX1_bout_15 rfl (lv_at hl 3 rfl) ?_
  refine va_csv (W.runS (As := [.int (nI q)]) (rest := []) ⟨hx, hb, hml, hown, hts⟩ (c_X1_checkResultK l dC dI cI q hq) (va_cwS 1 hts gX1_bout_X1_checkResult rfl rfl rfl (by decide +kernel) ⟨Nat.le_of_ble_eq_true rfl, Nat.le_of_ble_eq_true rfl⟩) ⟨PR.blind, fun U hU hW => ⟨rfl, PR.go (vaP_nil) hK hE hS hU hW⟩⟩ rfl rfl hl.1 rfl (lv_room (Nat.le_of_ble_eq_true rfl)) dX1_bout_16 ⟨Nat.le_of_ble_eq_true rfl, Nat.le_of_ble_eq_true rfl⟩) (fun _ => ?_)
  refine lv_aload_n hx hb dX1_bout_19 rfl (lv_at hl 0 rfl) ?_
  refine va_get (D := (dC, dI)) (ci := 1) (v := .ref r1) (C := RX1) (T := TX1) (N := 6) hx hb hts hinX1 hown hK hP 0 rfl rfl 0 (by decide) (hts (.fieldLink RX1 10 "WrestleBook" "roster" "LWrestleBook$Roster;") (by decide +kernel)) (fun _ h9 => h9) rfl dX1_bout_20 ?_
  refine lv_iload_n hx hb dX1_bout_23 rfl (lv_at hl 1 rfl) ?_
  refine lv_iload_n hx hb dX1_bout_24 rfl (lv_at hl 2 rfl) ?_
  refine lv_iload_n hx hb dX1_bout_25 rfl (lv_at hl 3 rfl) ?_
  refine vp_callSi (W.runV (As := [.int (nI a), .int (nI b), .int (nI q)]) (rest := []) ⟨hx, hb, hml, hown, hts⟩ (c_X0_isUpset l dC dI cI r1 d1 n F a (show a < n by omega) b (show b < n by omega) (nI q) hn hR) (cwV 3 hts gX1_bout_X0_isUpset rfl rfl rfl (by decide +kernel) ⟨Nat.le_of_ble_eq_true rfl, Nat.le_of_ble_eq_true rfl⟩) ⟨PR.blind, va_recv hK hP (ci := 0) (q0 := 2) rfl rfl, fun U hU hW => ⟨rfl, PR.go (hP.sub (ws' := (wR r1 d1 cI n F)) [2, 3, 4, 5, 6, 7, 8, 9] rfl) hK hE hS hU hW⟩⟩ rfl rfl hl.1 rfl (lv_room (Nat.le_of_ble_eq_true rfl)) dX1_bout_26 ⟨Nat.le_of_ble_eq_true rfl, Nat.le_of_ble_eq_true rfl⟩) (fun r hr0 => ?_)
  subst hr0
  refine rv_ifb_eq (tgt := 42) hx hb dX1_bout_29 (by decide) (fun c_29 => ?_) (fun c_29 => ?_)
  · refine lv_aload_n hx hb dX1_bout_42 rfl (lv_at hl 0 rfl) ?_
    refine lv_dup hx hb dX1_bout_43 rfl ?_
    refine va_get (D := (dC, dI)) (ci := 1) (v := .int (ct 1)) (C := RX1) (T := TX1) (N := 6) hx hb hts hinX1 hown hK hP 0 rfl rfl 4 (by decide) (hts (.fieldLink RX1 74 "WrestleBook" "boutsHeld" "I") (by decide +kernel)) (fun _ h9 => h9) rfl dX1_bout_44 ?_
    refine lv_iconst (v := 1) hx hb dX1_bout_47 (by decide) ?_
    refine lv_iadd hx hb dX1_bout_48 ?_
    refine rv_top (y := ct 1 + 1) rfl ?_
    refine va_put (D := (dC, dI)) (ci := 1) (v := .int (ct 1 + 1)) (ty := .int) (C := RX1) (T := TX1) (N := 6) hx hb hts hinX1 tyX1 tyX1_ok nmX1 hown hK hP hD hS 0 rfl rfl 4 (by decide) (hts (.fieldLink RX1 74 "WrestleBook" "boutsHeld" "I") (by decide +kernel)) (fun _ h9 => h9) rfl (by decide +kernel) rfl rfl (Nat.le_of_ble_eq_true rfl) dX1_bout_49 (fun H locs hP hD hS => ?_)
    have hP : va_P (dC, dI) vwCl (wB h r1 d1 r2 d2 rc cI n F n2 G (upd ct 1 (ct 1 + 1)) ch) H := hP
    have hD : va_D A (wB h r1 d1 r2 d2 rc cI n F n2 G (upd ct 1 (ct 1 + 1)) ch) := hD
    refine lv_aload_n hx hb dX1_bout_52 rfl (lv_at hl 0 rfl) ?_
    refine va_get (D := (dC, dI)) (ci := 1) (v := .ref r1) (C := RX1) (T := TX1) (N := 6) hx hb hts hinX1 hown hK hP 0 rfl rfl 0 (by decide) (hts (.fieldLink RX1 10 "WrestleBook" "roster" "LWrestleBook$Roster;") (by decide +kernel)) (fun _ h9 => h9) rfl dX1_bout_53 ?_
    refine lv_iload_n hx hb dX1_bout_56 rfl (lv_at hl 1 rfl) ?_
    refine lv_iload_n hx hb dX1_bout_57 rfl (lv_at hl 2 rfl) ?_
    refine lv_iload_n hx hb dX1_bout_58 rfl (lv_at hl 3 rfl) ?_
    have hPc := hP.sub (ws' := (wR r1 d1 cI n F)) [2, 3, 4, 5, 6, 7, 8, 9] rfl
    have hDc := hD.sub (ws' := (wR r1 d1 cI n F)) [2, 3, 4, 5, 6, 7, 8, 9] (by decide) rfl
    have hFc := va_free (wc := (wR r1 d1 cI n F)) hD hS hA [2, 3, 4, 5, 6, 7, 8, 9] rfl
    refine va_calli (va_runV (As := [.int (nI a), .int (nI b), .int (nI q)]) (rest := []) ⟨hx, hb, hml, hown, hts⟩ (c_X0_hold l dC dI cI r1 d1 n F H.size a (show a < n by omega) b (show b < n by omega) q hq hn hR) (cwV 3 hts gX1_bout_X0_hold rfl rfl rfl (by decide +kernel) ⟨Nat.le_of_ble_eq_true rfl, Nat.le_of_ble_eq_true rfl⟩) ⟨PW.blind, va_recv hK hP (ci := 0) (q0 := 2) rfl rfl, fun U hU hW => ⟨rfl, PW.go hPc hK hDc hE hS hFc hU hW⟩⟩ rfl rfl hl.1 rfl (lv_room (Nat.le_of_ble_eq_true rfl)) dX1_bout_59 ⟨Nat.le_of_ble_eq_true rfl, Nat.le_of_ble_eq_true rfl⟩) hS (fun q _ h9 => hFc q h9) hFc (fun r u9 t9 H1 locs ht9 hvm9 hw9 hB9 hz9 hk9 hS => ?_)
    obtain ⟨hP9, hD9⟩ := hB9
    rw [ht9] at hP9
    obtain ⟨hP, hD⟩ := va_join (wr := ([(h, .inr (1, [.ref r1, .ref r2, .ref rc, .int ((upd ct 1 (ct 1 + 1)) 0), .int ((upd ct 1 (ct 1 + 1)) 1), .int ((upd ct 1 (ct 1 + 1)) 2)])), (rc, .inl (cI, 10, .inl (ch))), (r2, .inr (0, [.ref (d2 0), .ref (d2 1), .ref (d2 2), .ref (d2 3), .ref (d2 4), .ref (d2 5), .ref (d2 6), .int (nI n2)])), (d2 0, .inl (cI, 12, .inl (G 0))), (d2 1, .inl (cI, 12, .inl (G 1))), (d2 2, .inl (cI, 12, .inl (G 2))), (d2 3, .inl (cI, 12, .inl (G 3))), (d2 4, .inl (cI, 12, .inl (G 4))), (d2 5, .inl (cI, 12, .inl (G 5))), (d2 6, .inl (cI, 12, .inl (G 6)))] : va_W)) (w1 := wR r1 d1 cI n (s_hold F a b q)) hP hD [2, 3, 4, 5, 6, 7, 8, 9] [0, 1, 10, 11, 12, 13, 14, 15, 16, 17] rfl rfl (by decide) (by decide) hk9 hFc hP9 hD9
    generalize H1 = H at hP hS ⊢
    have hP := hP.sub (ws' := wB h r1 d1 r2 d2 rc cI n (s_hold F a b q) n2 G (upd ct 1 (ct 1 + 1)) ch) [0, 1, 10, 11, 12, 13, 14, 15, 16, 17, 2, 3, 4, 5, 6, 7, 8, 9] rfl
    have hD := hD.sub (ws' := wB h r1 d1 r2 d2 rc cI n (s_hold F a b q) n2 G (upd ct 1 (ct 1 + 1)) ch) [0, 1, 10, 11, 12, 13, 14, 15, 16, 17, 2, 3, 4, 5, 6, 7, 8, 9] (by decide) rfl
    have hP : va_P (dC, dI) vwCl (wB h r1 d1 r2 d2 rc cI n (s_hold F a b q) n2 G (upd ct 1 (ct 1 + 1)) ch) H := hP
    have hD : va_D A (wB h r1 d1 r2 d2 rc cI n (s_hold F a b q) n2 G (upd ct 1 (ct 1 + 1)) ch) := hD
    have hw9 : r = s_gain F a b (nI q) := hw9
    subst hw9
    have hP8 : va_P (dC, dI) vwCl (wB h r1 d1 r2 d2 rc cI n (s_hold F a b q) n2 G (s_ct ct F a b q) ch) H := by rw [s_ct_no c_29]; exact hP
    have hD8 : va_D A (wB h r1 d1 r2 d2 rc cI n (s_hold F a b q) n2 G (s_ct ct F a b q) ch) := by rw [s_ct_no c_29]; exact hD
    exact W.iret (v := s_gain F a b (nI q)) hx hb hr (fun t ht hW => ⟨⟨_, (), rfl, (show s_gain F a b (nI q) = s_gain F a b (nI q) from by rfl), by rw [ht]; exact hP8, hD8⟩, hS.F ht⟩) hS.2.2 dX1_bout_62
  · refine lv_aload_n hx hb dX1_bout_32 rfl (lv_at hl 0 rfl) ?_
    refine lv_dup hx hb dX1_bout_33 rfl ?_
    refine va_get (D := (dC, dI)) (ci := 1) (v := .int (ct 2)) (C := RX1) (T := TX1) (N := 6) hx hb hts hinX1 hown hK hP 0 rfl rfl 5 (by decide) (hts (.fieldLink RX1 70 "WrestleBook" "upsets" "I") (by decide +kernel)) (fun _ h9 => h9) rfl dX1_bout_34 ?_
    refine lv_iconst (v := 1) hx hb dX1_bout_37 (by decide) ?_
    refine lv_iadd hx hb dX1_bout_38 ?_
    refine rv_top (y := ct 2 + bI (s_up F a b (nI q))) (by rw [c_29]; rfl) ?_
    refine va_put (D := (dC, dI)) (ci := 1) (v := .int (ct 2 + bI (s_up F a b (nI q)))) (ty := .int) (C := RX1) (T := TX1) (N := 6) hx hb hts hinX1 tyX1 tyX1_ok nmX1 hown hK hP hD hS 0 rfl rfl 5 (by decide) (hts (.fieldLink RX1 70 "WrestleBook" "upsets" "I") (by decide +kernel)) (fun _ h9 => h9) rfl (by decide +kernel) rfl rfl (Nat.le_of_ble_eq_true rfl) dX1_bout_39 (fun H locs hP hD hS => ?_)
    have hP : va_P (dC, dI) vwCl (wB h r1 d1 r2 d2 rc cI n F n2 G (upd ct 2 (ct 2 + bI (s_up F a b (nI q)))) ch) H := hP
    have hD : va_D A (wB h r1 d1 r2 d2 rc cI n F n2 G (upd ct 2 (ct 2 + bI (s_up F a b (nI q)))) ch) := hD
    refine lv_aload_n hx hb dX1_bout_42 rfl (lv_at hl 0 rfl) ?_
    refine lv_dup hx hb dX1_bout_43 rfl ?_
    refine va_get (D := (dC, dI)) (ci := 1) (v := .int ((upd ct 2 (ct 2 + bI (s_up F a b (nI q)))) 1)) (C := RX1) (T := TX1) (N := 6) hx hb hts hinX1 hown hK hP 0 rfl rfl 4 (by decide) (hts (.fieldLink RX1 74 "WrestleBook" "boutsHeld" "I") (by decide +kernel)) (fun _ h9 => h9) rfl dX1_bout_44 ?_
    refine lv_iconst (v := 1) hx hb dX1_bout_47 (by decide) ?_
    refine lv_iadd hx hb dX1_bout_48 ?_
    refine rv_top (y := ct 1 + 1) (by rw [pk_un (by decide)]) ?_
    refine va_put (D := (dC, dI)) (ci := 1) (v := .int (ct 1 + 1)) (ty := .int) (C := RX1) (T := TX1) (N := 6) hx hb hts hinX1 tyX1 tyX1_ok nmX1 hown hK hP hD hS 0 rfl rfl 4 (by decide) (hts (.fieldLink RX1 74 "WrestleBook" "boutsHeld" "I") (by decide +kernel)) (fun _ h9 => h9) rfl (by decide +kernel) rfl rfl (Nat.le_of_ble_eq_true rfl) dX1_bout_49 (fun H locs hP hD hS => ?_)
    have hP : va_P (dC, dI) vwCl (wB h r1 d1 r2 d2 rc cI n F n2 G (upd (upd ct 2 (ct 2 + bI (s_up F a b (nI q)))) 1 (ct 1 + 1)) ch) H := hP
    have hD : va_D A (wB h r1 d1 r2 d2 rc cI n F n2 G (upd (upd ct 2 (ct 2 + bI (s_up F a b (nI q)))) 1 (ct 1 + 1)) ch) := hD
    refine lv_aload_n hx hb dX1_bout_52 rfl (lv_at hl 0 rfl) ?_
    refine va_get (D := (dC, dI)) (ci := 1) (v := .ref r1) (C := RX1) (T := TX1) (N := 6) hx hb hts hinX1 hown hK hP 0 rfl rfl 0 (by decide) (hts (.fieldLink RX1 10 "WrestleBook" "roster" "LWrestleBook$Roster;") (by decide +kernel)) (fun _ h9 => h9) rfl dX1_bout_53 ?_
    refine lv_iload_n hx hb dX1_bout_56 rfl (lv_at hl 1 rfl) ?_
    refine lv_iload_n hx hb dX1_bout_57 rfl (lv_at hl 2 rfl) ?_
    refine lv_iload_n hx hb dX1_bout_58 rfl (lv_at hl 3 rfl) ?_
    have hPc := hP.sub (ws' := (wR r1 d1 cI n F)) [2, 3, 4, 5, 6, 7, 8, 9] rfl
    have hDc := hD.sub (ws' := (wR r1 d1 cI n F)) [2, 3, 4, 5, 6, 7, 8, 9] (by decide) rfl
    have hFc := va_free (wc := (wR r1 d1 cI n F)) hD hS hA [2, 3, 4, 5, 6, 7, 8, 9] rfl
    refine va_calli (va_runV (As := [.int (nI a), .int (nI b), .int (nI q)]) (rest := []) ⟨hx, hb, hml, hown, hts⟩ (c_X0_hold l dC dI cI r1 d1 n F H.size a (show a < n by omega) b (show b < n by omega) q hq hn hR) (cwV 3 hts gX1_bout_X0_hold rfl rfl rfl (by decide +kernel) ⟨Nat.le_of_ble_eq_true rfl, Nat.le_of_ble_eq_true rfl⟩) ⟨PW.blind, va_recv hK hP (ci := 0) (q0 := 2) rfl rfl, fun U hU hW => ⟨rfl, PW.go hPc hK hDc hE hS hFc hU hW⟩⟩ rfl rfl hl.1 rfl (lv_room (Nat.le_of_ble_eq_true rfl)) dX1_bout_59 ⟨Nat.le_of_ble_eq_true rfl, Nat.le_of_ble_eq_true rfl⟩) hS (fun q _ h9 => hFc q h9) hFc (fun r u9 t9 H1 locs ht9 hvm9 hw9 hB9 hz9 hk9 hS => ?_)
    obtain ⟨hP9, hD9⟩ := hB9
    rw [ht9] at hP9
    obtain ⟨hP, hD⟩ := va_join (wr := ([(h, .inr (1, [.ref r1, .ref r2, .ref rc, .int ((upd (upd ct 2 (ct 2 + bI (s_up F a b (nI q)))) 1 (ct 1 + 1)) 0), .int ((upd (upd ct 2 (ct 2 + bI (s_up F a b (nI q)))) 1 (ct 1 + 1)) 1), .int ((upd (upd ct 2 (ct 2 + bI (s_up F a b (nI q)))) 1 (ct 1 + 1)) 2)])), (rc, .inl (cI, 10, .inl (ch))), (r2, .inr (0, [.ref (d2 0), .ref (d2 1), .ref (d2 2), .ref (d2 3), .ref (d2 4), .ref (d2 5), .ref (d2 6), .int (nI n2)])), (d2 0, .inl (cI, 12, .inl (G 0))), (d2 1, .inl (cI, 12, .inl (G 1))), (d2 2, .inl (cI, 12, .inl (G 2))), (d2 3, .inl (cI, 12, .inl (G 3))), (d2 4, .inl (cI, 12, .inl (G 4))), (d2 5, .inl (cI, 12, .inl (G 5))), (d2 6, .inl (cI, 12, .inl (G 6)))] : va_W)) (w1 := wR r1 d1 cI n (s_hold F a b q)) hP hD [2, 3, 4, 5, 6, 7, 8, 9] [0, 1, 10, 11, 12, 13, 14, 15, 16, 17] rfl rfl (by decide) (by decide) hk9 hFc hP9 hD9
    generalize H1 = H at hP hS ⊢
    have hP := hP.sub (ws' := wB h r1 d1 r2 d2 rc cI n (s_hold F a b q) n2 G (upd (upd ct 2 (ct 2 + bI (s_up F a b (nI q)))) 1 (ct 1 + 1)) ch) [0, 1, 10, 11, 12, 13, 14, 15, 16, 17, 2, 3, 4, 5, 6, 7, 8, 9] rfl
    have hD := hD.sub (ws' := wB h r1 d1 r2 d2 rc cI n (s_hold F a b q) n2 G (upd (upd ct 2 (ct 2 + bI (s_up F a b (nI q)))) 1 (ct 1 + 1)) ch) [0, 1, 10, 11, 12, 13, 14, 15, 16, 17, 2, 3, 4, 5, 6, 7, 8, 9] (by decide) rfl
    have hP : va_P (dC, dI) vwCl (wB h r1 d1 r2 d2 rc cI n (s_hold F a b q) n2 G (upd (upd ct 2 (ct 2 + bI (s_up F a b (nI q)))) 1 (ct 1 + 1)) ch) H := hP
    have hD : va_D A (wB h r1 d1 r2 d2 rc cI n (s_hold F a b q) n2 G (upd (upd ct 2 (ct 2 + bI (s_up F a b (nI q)))) 1 (ct 1 + 1)) ch) := hD
    have hw9 : r = s_gain F a b (nI q) := hw9
    subst hw9
    have hP8 : va_P (dC, dI) vwCl (wB h r1 d1 r2 d2 rc cI n (s_hold F a b q) n2 G (s_ct ct F a b q) ch) H := by exact hP
    have hD8 : va_D A (wB h r1 d1 r2 d2 rc cI n (s_hold F a b q) n2 G (s_ct ct F a b q) ch) := by exact hD
    exact W.iret (v := s_gain F a b (nI q)) hx hb hr (fun t ht hW => ⟨⟨_, (), rfl, (show s_gain F a b (nI q) = s_gain F a b (nI q) from by rfl), by rw [ht]; exact hP8, hD8⟩, hS.F ht⟩) hS.2.2 dX1_bout_62

set_option maxHeartbeats 4000000 in
set_option maxRecDepth 100000 in
theorem c_X1_foreseeK (l : Launch) (dC : Nat → ClassId) (dI : Nat → Nat → Nat) (cI : ClassId) (h r1 : Nat) (d1 : Nat → Nat) (r2 : Nat) (d2 : Nat → Nat) (rc : Nat) (n : Nat) (F : Nat → Nat → Int32) (n2 : Nat) (G : Nat → Nat → Int32) (ct ch : Nat → Int32) (sz : Nat) (k : Nat) (hk1 : 1 ≤ k) (hk : k ≤ 40) (hn : n ≤ 12) (hR : okR n F) : Met l yX1_foresee wsX1_foresee ({ frames := 6, cells := 0, slots := 0, locals := 131 } : Room) (va_Pc [.ref h, .int (nI k)] (fun U => PW dC dI cI (wB h r1 d1 r2 d2 rc cI n F n2 G ct ch) sz U)) (va_Qi (fun r (_ : Unit) => r = s_hi n (s_forU n (s_copyU F G n) k)) (BW dC dI (va_A (wB h r1 d1 r2 d2 rc cI n F n2 G ct ch) sz) (wB h r1 d1 r2 d2 rc cI n F n (s_forU n (s_copyU F G n) k) ct ch)) (va_A (wB h r1 d1 r2 d2 rc cI n F n2 G ct ch) sz)) 0 0 (va_A (wB h r1 d1 r2 d2 rc cI n F n2 G ct ch) sz) := by
  refine Met.ofW (cc := cX1_foresee) (maxL := 4) (ret := (some .int)) (by decide) rfl ?_
  intro p e s m args below meth c s₁ B hml hv
  obtain ⟨rfl, hsz, hP, hK, hD0, hE⟩ := hv
  have hx := B.exec
  have hb := B.bytes
  have hr := B.returns
  have hts := atoms_spec (ws := wsX1_foresee) B.pre
  have hown : s.vm.findClass RX1 = some m.cls := findClass_of_methodNamed B.named
  have hlocks := B.notSynchronized
  subst hsz
  have hD := hD0.self (sz := s.heap.size)
  generalize hAe : va_A (wB h r1 d1 r2 d2 rc cI n F n2 G ct ch) s.heap.size = A at hD hE ⊢
  have hA : ∀ q : Nat, s.heap.size ≤ q → A q := fun q h9 => by rw [← hAe]; exact Or.inr h9
  have hS : va_S A s.heap s.heap [] := va_S.rf
  have hinX1 : ∀ w ∈ wsX10, w ∈ wsX1_foresee := by decide +kernel
  have hthIAE : ∀ w ∈ (vx_atS RX1 31 "java/lang/IllegalArgumentException" ["java/lang/RuntimeException", "java/lang/Exception"]).filter goodWord, w ∈ wsX1_foresee := by decide +kernel
  have hl := lv_entry ([.ref h, .int (nI k)]) (n := 4) (Nat.le_of_ble_eq_true rfl)
  rw [lg_entry_eq]
  generalize (lg_sl ([.ref h, .int (nI k)]) ++ List.replicate (4 - (lg_sl ([.ref h, .int (nI k)])).length) Slot.unset).toArray = ls at hl ⊢
  have hl : lv_has ls 4 [(0, .ref h), (1, .int (nI k))] := hl
  refine lv_iload_n hx hb dX1_foresee_0 rfl (lv_at hl 1 rfl) ?_
  refine lv_iconst (v := 1) hx hb dX1_foresee_1 (by decide) ?_
  refine lv_icmp_lt (tgt := 11) hx hb dX1_foresee_2 (by decide) (fun c_2 => ?_) (fun c_2 => ?_)
  · exact absurd c_2 (nI_nlt (b := 1) hk1 (by omega))
  · refine lv_iload_n hx hb dX1_foresee_5 rfl (lv_at hl 1 rfl) ?_
    refine lv_bipush (v := 40) hx hb dX1_foresee_6 (by decide) ?_
    refine lv_icmp_le (tgt := 21) hx hb dX1_foresee_8 (by decide) (fun c_8 => ?_) (fun c_8 => ?_)
    · refine lv_aload_n hx hb dX1_foresee_21 rfl (lv_at hl 0 rfl) ?_
      refine va_get (D := (dC, dI)) (ci := 1) (v := .ref r2) (C := RX1) (T := TX1) (N := 6) hx hb hts hinX1 hown hK hP 0 rfl rfl 1 (by decide) (hts (.fieldLink RX1 16 "WrestleBook" "trial" "LWrestleBook$Roster;") (by decide +kernel)) (fun _ h9 => h9) rfl dX1_foresee_22 ?_
      refine lv_aload_n hx hb dX1_foresee_25 rfl (lv_at hl 0 rfl) ?_
      refine va_get (D := (dC, dI)) (ci := 1) (v := .ref r1) (C := RX1) (T := TX1) (N := 6) hx hb hts hinX1 hown hK hP 0 rfl rfl 0 (by decide) (hts (.fieldLink RX1 10 "WrestleBook" "roster" "LWrestleBook$Roster;") (by decide +kernel)) (fun _ h9 => h9) rfl dX1_foresee_26 ?_
      have hPc := hP.sub (ws' := (wR r2 d2 cI n2 G ++ wR r1 d1 cI n F)) [10, 11, 12, 13, 14, 15, 16, 17, 2, 3, 4, 5, 6, 7, 8, 9] rfl
      have hDc := hD.sub (ws' := (wR r2 d2 cI n2 G ++ wR r1 d1 cI n F)) [10, 11, 12, 13, 14, 15, 16, 17, 2, 3, 4, 5, 6, 7, 8, 9] (by decide) rfl
      have hFc := va_free (wc := (wR r2 d2 cI n2 G ++ wR r1 d1 cI n F)) hD hS hA [10, 11, 12, 13, 14, 15, 16, 17, 2, 3, 4, 5, 6, 7, 8, 9] rfl
      refine va_callv (va_runV (As := [.ref r1]) (rest := []) ⟨hx, hb, hml, hown, hts⟩ (c_X0_copyFrom l dC dI cI r2 d2 n2 G r1 d1 n F s.heap.size hn) (cwV 1 hts gX1_foresee_X0_copyFrom rfl rfl rfl (by decide +kernel) ⟨Nat.le_of_ble_eq_true rfl, Nat.le_of_ble_eq_true rfl⟩) ⟨PW.blind, va_recv hK hP (ci := 0) (q0 := 10) rfl rfl, fun U hU hW => ⟨rfl, PW.go hPc hK hDc hE hS hFc hU hW⟩⟩ rfl rfl hl.1 rfl (lv_room (Nat.le_of_ble_eq_true rfl)) dX1_foresee_29 ⟨Nat.le_of_ble_eq_true rfl, Nat.le_of_ble_eq_true rfl⟩) hS (fun q _ h9 => hFc q h9) hFc (fun u9 t9 H1 locs ht9 hvm9 hw9 hB9 hz9 hk9 hS => ?_)
      obtain ⟨hP9, hD9⟩ := hB9
      rw [ht9] at hP9
      obtain ⟨hP, hD⟩ := va_join (wr := ([(h, .inr (1, [.ref r1, .ref r2, .ref rc, .int (ct 0), .int (ct 1), .int (ct 2)])), (rc, .inl (cI, 10, .inl (ch)))] : va_W)) (w1 := wR r2 d2 cI n (s_copyU F G n) ++ wR r1 d1 cI n F) hP hD [10, 11, 12, 13, 14, 15, 16, 17, 2, 3, 4, 5, 6, 7, 8, 9] [0, 1] rfl rfl (by decide) (by decide) hk9 hFc hP9 hD9
      generalize H1 = H at hP hS ⊢
      have hP := hP.sub (ws' := wB h r1 d1 r2 d2 rc cI n F n (s_copyU F G n) ct ch) [0, 1, 10, 11, 12, 13, 14, 15, 16, 17, 2, 3, 4, 5, 6, 7, 8, 9] rfl
      have hD := hD.sub (ws' := wB h r1 d1 r2 d2 rc cI n F n (s_copyU F G n) ct ch) [0, 1, 10, 11, 12, 13, 14, 15, 16, 17, 2, 3, 4, 5, 6, 7, 8, 9] (by decide) rfl
      have hP : va_P (dC, dI) vwCl (wB h r1 d1 r2 d2 rc cI n F n (s_copyU F G n) ct ch) H := hP
      have hD : va_D A (wB h r1 d1 r2 d2 rc cI n F n (s_copyU F G n) ct ch) := hD
      refine lv_iconst (v := 0) hx hb dX1_foresee_32 (by decide) ?_
      refine lv_istore_n (lv' := [(2, .int 0), (0, .ref h), (1, .int (nI k))]) hx hb dX1_foresee_33 rfl hl (by decide) rfl (fun ls hl => ?_)
      have L_34 : ∀ (k8 i : Nat) (E : Nat → Nat → Int32), i + k8 = k → E = s_forU n (s_copyU F G n) i → okR n E → ∀ (H : Heap) (locs : List Loc), va_P (dC, dI) vwCl (wB h r1 d1 r2 d2 rc cI n F n E ct ch) H → va_D A (wB h r1 d1 r2 d2 rc cI n F n E ct ch) → va_S A s.heap H locs → ∀ (ls : Array Slot), lv_has ls 4 [(2, .int (nI i)), (0, .ref h), (1, .int (nI k))] → W p l e (headSpec wsX1_foresee ({ frames := 6, cells := 0, slots := 0, locals := 131 } : Room)).room s m ([.ref h, .int (nI k)] : List Value).toArray below meth c H locs 0 0 (MQ below (va_Qi (fun r (_ : Unit) => r = s_hi n (s_forU n (s_copyU F G n) k)) (BW dC dI A (wB h r1 d1 r2 d2 rc cI n F n (s_forU n (s_copyU F G n) k) ct ch)) A) ([.ref h, .int (nI k)] : List Value).toArray s 0 0 A) (F0 m 34 ls []) := by
        intro k8
        induction k8 with
        | zero =>
          intro i E e_i hE9 hokE H locs hP hD hS ls hl
          refine lv_iload_n hx hb dX1_foresee_34 rfl (lv_at hl 0 rfl) ?_
          refine lv_iload_n hx hb dX1_foresee_35 rfl (lv_at hl 2 rfl) ?_
          refine rv_icmp_ge (tgt := 76) hx hb (a := i) (b := k) (by omega) (by omega) dX1_foresee_36 (by decide) (fun c_36 => ?_) (fun c_36 => ?_)
          · have hend : s_forU n (s_copyU F G n) k = E := by rw [hE9, show i = k by omega]
            refine lv_aload_n hx hb dX1_foresee_76 rfl (lv_at hl 1 rfl) ?_
            refine va_get (D := (dC, dI)) (ci := 1) (v := .ref r2) (C := RX1) (T := TX1) (N := 6) hx hb hts hinX1 hown hK hP 0 rfl rfl 1 (by decide) (hts (.fieldLink RX1 16 "WrestleBook" "trial" "LWrestleBook$Roster;") (by decide +kernel)) (fun _ h9 => h9) rfl dX1_foresee_77 ?_
            refine vp_callSi (W.runV (As := []) (rest := []) ⟨hx, hb, hml, hown, hts⟩ (c_X0_highest l dC dI cI r2 d2 n E hn) (cwV 0 hts gX1_foresee_X0_highest rfl rfl rfl (by decide +kernel) ⟨Nat.le_of_ble_eq_true rfl, Nat.le_of_ble_eq_true rfl⟩) ⟨PR.blind, va_recv hK hP (ci := 0) (q0 := 10) rfl rfl, fun U hU hW => ⟨rfl, PR.go (hP.sub (ws' := (wR r2 d2 cI n E)) [10, 11, 12, 13, 14, 15, 16, 17] rfl) hK hE hS hU hW⟩⟩ rfl rfl hl.1 rfl (lv_room (Nat.le_of_ble_eq_true rfl)) dX1_foresee_80 ⟨Nat.le_of_ble_eq_true rfl, Nat.le_of_ble_eq_true rfl⟩) (fun r hr0 => ?_)
            subst hr0
            have hP8 : va_P (dC, dI) vwCl (wB h r1 d1 r2 d2 rc cI n F n (s_forU n (s_copyU F G n) k) ct ch) H := by rw [hend]; exact hP
            have hD8 : va_D A (wB h r1 d1 r2 d2 rc cI n F n (s_forU n (s_copyU F G n) k) ct ch) := by rw [hend]; exact hD
            exact W.iret (v := s_hi n E) hx hb hr (fun t ht hW => ⟨⟨_, (), rfl, (show s_hi n E = s_hi n (s_forU n (s_copyU F G n) k) from by rw [hend]), by rw [ht]; exact hP8, hD8⟩, hS.F ht⟩) hS.2.2 dX1_foresee_83
          · exact absurd c_36 (by omega)
        | succ k8 ih_34 =>
          intro i E e_i hE9 hokE H locs hP hD hS ls hl
          refine lv_iload_n hx hb dX1_foresee_34 rfl (lv_at hl 0 rfl) ?_
          refine lv_iload_n hx hb dX1_foresee_35 rfl (lv_at hl 2 rfl) ?_
          refine rv_icmp_ge (tgt := 76) hx hb (a := i) (b := k) (by omega) (by omega) dX1_foresee_36 (by decide) (fun c_36 => ?_) (fun c_36 => ?_)
          · exact absurd c_36 (by omega)
          · refine lv_aload_n hx hb dX1_foresee_39 rfl (lv_at hl 1 rfl) ?_
            refine va_get (D := (dC, dI)) (ci := 1) (v := .ref r2) (C := RX1) (T := TX1) (N := 6) hx hb hts hinX1 hown hK hP 0 rfl rfl 1 (by decide) (hts (.fieldLink RX1 16 "WrestleBook" "trial" "LWrestleBook$Roster;") (by decide +kernel)) (fun _ h9 => h9) rfl dX1_foresee_40 ?_
            refine vp_callSi (W.runV (As := []) (rest := []) ⟨hx, hb, hml, hown, hts⟩ (c_X0_bestPair l dC dI cI r2 d2 n E hn hokE) (cwV 0 hts gX1_foresee_X0_bestPair rfl rfl rfl (by decide +kernel) ⟨Nat.le_of_ble_eq_true rfl, Nat.le_of_ble_eq_true rfl⟩) ⟨PR.blind, va_recv hK hP (ci := 0) (q0 := 10) rfl rfl, fun U hU hW => ⟨rfl, PR.go (hP.sub (ws' := (wR r2 d2 cI n E)) [10, 11, 12, 13, 14, 15, 16, 17] rfl) hK hE hS hU hW⟩⟩ rfl rfl hl.1 rfl (lv_room (Nat.le_of_ble_eq_true rfl)) dX1_foresee_43 ⟨Nat.le_of_ble_eq_true rfl, Nat.le_of_ble_eq_true rfl⟩) (fun r hr0 => ?_)
            subst hr0
            refine lv_istore_n (lv' := [(3, .int (s_next n E)), (2, .int (nI i)), (0, .ref h), (1, .int (nI k))]) hx hb dX1_foresee_46 rfl hl (by decide) rfl (fun ls hl => ?_)
            refine lv_iload_n hx hb dX1_foresee_47 rfl (lv_at hl 0 rfl) ?_
            refine lv_iconst (v := (-1)) hx hb dX1_foresee_48 (by decide) ?_
            refine lv_icmp_ne (tgt := 55) hx hb dX1_foresee_49 (by decide) (fun c_49 => ?_) (fun c_49 => ?_)
            · obtain ⟨a, b, hab, hbn, e49⟩ := (pN_next (n := n) E).resolve_left c_49
              refine lv_aload_n hx hb dX1_foresee_55 rfl (lv_at hl 2 rfl) ?_
              refine va_get (D := (dC, dI)) (ci := 1) (v := .ref r2) (C := RX1) (T := TX1) (N := 6) hx hb hts hinX1 hown hK hP 0 rfl rfl 1 (by decide) (hts (.fieldLink RX1 16 "WrestleBook" "trial" "LWrestleBook$Roster;") (by decide +kernel)) (fun _ h9 => h9) rfl dX1_foresee_56 ?_
              refine lv_iload_n hx hb dX1_foresee_59 rfl (lv_at hl 0 rfl) ?_
              refine lv_bipush (v := 12) hx hb dX1_foresee_60 (by decide) ?_
              refine lv_idiv hx hb dX1_foresee_62 (by decide) ?_
              refine rv_top (y := nI a) (by rw [e49]; exact div12 hab hbn hn) ?_
              refine lv_iload_n hx hb dX1_foresee_63 rfl (lv_at hl 0 rfl) ?_
              refine lv_bipush (v := 12) hx hb dX1_foresee_64 (by decide) ?_
              refine lv_irem hx hb dX1_foresee_66 (by decide) ?_
              refine rv_top (y := nI b) (by rw [e49]; exact rem12 hab hbn hn) ?_
              have hPc := hP.sub (ws' := (wR r2 d2 cI n E)) [10, 11, 12, 13, 14, 15, 16, 17] rfl
              have hDc := hD.sub (ws' := (wR r2 d2 cI n E)) [10, 11, 12, 13, 14, 15, 16, 17] (by decide) rfl
              have hFc := va_free (wc := (wR r2 d2 cI n E)) hD hS hA [10, 11, 12, 13, 14, 15, 16, 17] rfl
              refine va_callv (va_runV (As := [.int (nI a), .int (nI b)]) (rest := []) ⟨hx, hb, hml, hown, hts⟩ (c_X0_holdAsRated l dC dI cI r2 d2 n E H.size a (show a < n by omega) b (show b < n by omega) hn hokE) (cwV 2 hts gX1_foresee_X0_holdAsRated rfl rfl rfl (by decide +kernel) ⟨Nat.le_of_ble_eq_true rfl, Nat.le_of_ble_eq_true rfl⟩) ⟨PW.blind, va_recv hK hP (ci := 0) (q0 := 10) rfl rfl, fun U hU hW => ⟨rfl, PW.go hPc hK hDc hE hS hFc hU hW⟩⟩ rfl rfl hl.1 rfl (lv_room (Nat.le_of_ble_eq_true rfl)) dX1_foresee_67 ⟨Nat.le_of_ble_eq_true rfl, Nat.le_of_ble_eq_true rfl⟩) hS (fun q _ h9 => hFc q h9) hFc (fun u9 t9 H1 locs ht9 hvm9 hw9 hB9 hz9 hk9 hS => ?_)
              obtain ⟨hP9, hD9⟩ := hB9
              rw [ht9] at hP9
              obtain ⟨hP, hD⟩ := va_join (wr := ([(h, .inr (1, [.ref r1, .ref r2, .ref rc, .int (ct 0), .int (ct 1), .int (ct 2)])), (rc, .inl (cI, 10, .inl (ch))), (r1, .inr (0, [.ref (d1 0), .ref (d1 1), .ref (d1 2), .ref (d1 3), .ref (d1 4), .ref (d1 5), .ref (d1 6), .int (nI n)])), (d1 0, .inl (cI, 12, .inl (F 0))), (d1 1, .inl (cI, 12, .inl (F 1))), (d1 2, .inl (cI, 12, .inl (F 2))), (d1 3, .inl (cI, 12, .inl (F 3))), (d1 4, .inl (cI, 12, .inl (F 4))), (d1 5, .inl (cI, 12, .inl (F 5))), (d1 6, .inl (cI, 12, .inl (F 6)))] : va_W)) (w1 := wR r2 d2 cI n (s_har E a b)) hP hD [10, 11, 12, 13, 14, 15, 16, 17] [0, 1, 2, 3, 4, 5, 6, 7, 8, 9] rfl rfl (by decide) (by decide) hk9 hFc hP9 hD9
              generalize H1 = H at hP hS ⊢
              have hP := hP.sub (ws' := wB h r1 d1 r2 d2 rc cI n F n (s_har E a b) ct ch) [0, 1, 2, 3, 4, 5, 6, 7, 8, 9, 10, 11, 12, 13, 14, 15, 16, 17] rfl
              have hD := hD.sub (ws' := wB h r1 d1 r2 d2 rc cI n F n (s_har E a b) ct ch) [0, 1, 2, 3, 4, 5, 6, 7, 8, 9, 10, 11, 12, 13, 14, 15, 16, 17] (by decide) rfl
              have hP : va_P (dC, dI) vwCl (wB h r1 d1 r2 d2 rc cI n F n (s_har E a b) ct ch) H := hP
              have hD : va_D A (wB h r1 d1 r2 d2 rc cI n F n (s_har E a b) ct ch) := hD
              refine lv_iinc (v := nI (i + 1)) (lv' := [(2, .int (nI (i + 1))), (3, .int (s_next n E)), (0, .ref h), (1, .int (nI k))]) hx hb dX1_foresee_70 hl (k := 1) rfl (nI_add i 1) (by decide) rfl (fun ls hl => ?_)
              refine lv_goto (tgt := 34) hx hb dX1_foresee_73 (by decide) ?_
              exact ih_34 (i + 1) (s_har E a b) (by omega) (forU_go hE9 hab hbn hn e49) (okR_har (Nat.ne_of_lt hab) hokE) _ _ hP hD hS ls (lv_sub hl [0, 2, 3] rfl)
            · have hend : s_forU n (s_copyU F G n) k = E := by
                have c8 : s_next n (s_forU n (s_copyU F G n) i) = -1 := by rw [← hE9]; exact c_49
                have q := forU_stop c8 (k - i)
                rw [show i + (k - i) = k by omega] at q
                rw [q, hE9]
              refine lv_goto (tgt := 76) hx hb dX1_foresee_52 (by decide) ?_
              refine lv_aload_n hx hb dX1_foresee_76 rfl (lv_at hl 2 rfl) ?_
              refine va_get (D := (dC, dI)) (ci := 1) (v := .ref r2) (C := RX1) (T := TX1) (N := 6) hx hb hts hinX1 hown hK hP 0 rfl rfl 1 (by decide) (hts (.fieldLink RX1 16 "WrestleBook" "trial" "LWrestleBook$Roster;") (by decide +kernel)) (fun _ h9 => h9) rfl dX1_foresee_77 ?_
              refine vp_callSi (W.runV (As := []) (rest := []) ⟨hx, hb, hml, hown, hts⟩ (c_X0_highest l dC dI cI r2 d2 n E hn) (cwV 0 hts gX1_foresee_X0_highest rfl rfl rfl (by decide +kernel) ⟨Nat.le_of_ble_eq_true rfl, Nat.le_of_ble_eq_true rfl⟩) ⟨PR.blind, va_recv hK hP (ci := 0) (q0 := 10) rfl rfl, fun U hU hW => ⟨rfl, PR.go (hP.sub (ws' := (wR r2 d2 cI n E)) [10, 11, 12, 13, 14, 15, 16, 17] rfl) hK hE hS hU hW⟩⟩ rfl rfl hl.1 rfl (lv_room (Nat.le_of_ble_eq_true rfl)) dX1_foresee_80 ⟨Nat.le_of_ble_eq_true rfl, Nat.le_of_ble_eq_true rfl⟩) (fun r hr0 => ?_)
              subst hr0
              have hP8 : va_P (dC, dI) vwCl (wB h r1 d1 r2 d2 rc cI n F n (s_forU n (s_copyU F G n) k) ct ch) H := by rw [hend]; exact hP
              have hD8 : va_D A (wB h r1 d1 r2 d2 rc cI n F n (s_forU n (s_copyU F G n) k) ct ch) := by rw [hend]; exact hD
              exact W.iret (v := s_hi n E) hx hb hr (fun t ht hW => ⟨⟨_, (), rfl, (show s_hi n E = s_hi n (s_forU n (s_copyU F G n) k) from by rw [hend]), by rw [ht]; exact hP8, hD8⟩, hS.F ht⟩) hS.2.2 dX1_foresee_83
      exact L_34 k 0 (s_copyU F G n) (by omega) rfl (okR_ag (ag_copy n F G) hR) _ _ hP hD hS ls (lv_sub hl [0, 1, 2] rfl)
    · exact absurd (nI_le (b := 40) hk (by decide)) c_8

set_option maxHeartbeats 4000000 in
set_option maxRecDepth 100000 in
theorem c_X1_meanK (l : Launch) (dC : Nat → ClassId) (dI : Nat → Nat → Nat) (cI : ClassId) (h r1 : Nat) (d1 : Nat → Nat) (r2 : Nat) (d2 : Nat → Nat) (rc : Nat) (n : Nat) (F : Nat → Nat → Int32) (n2 : Nat) (G : Nat → Nat → Int32) (ct ch : Nat → Int32) (hn : n ≤ 12) (hne : n ≠ 0 → vf_n64 (FP.ddiv (FP.i2d (s_sum n F)) (FP.i2d (nI n)))) : Met l yX1_mean wsX1_mean ({ frames := 1, cells := 0, slots := 0, locals := 22 } : Room) (va_Pc [.ref h] (fun U => PR dC dI cI (wB h r1 d1 r2 d2 rc cI n F n2 G ct ch) U)) (vp_Sd (fun r => r = s_mean n F)) 0 0 (fun _ => False) := by
  refine Met.ofW (cc := cX1_mean) (maxL := 2) (ret := (some .double)) (by decide) rfl ?_
  intro p e s m args below meth c s₁ B hml hv
  obtain ⟨rfl, hP, hK, hE⟩ := hv
  have hx := B.exec
  have hb := B.bytes
  have hr := B.returns
  have hts := atoms_spec (ws := wsX1_mean) B.pre
  have hown : s.vm.findClass RX1 = some m.cls := findClass_of_methodNamed B.named
  have hlocks := B.notSynchronized
  have hS : va_S (fun _ => False) s.heap s.heap [] := va_S.rf
  have hinX1 : ∀ w ∈ wsX10, w ∈ wsX1_mean := by decide +kernel
  have hl := lv_entry ([.ref h]) (n := 2) (Nat.le_of_ble_eq_true rfl)
  rw [lg_entry_eq]
  generalize (lg_sl ([.ref h]) ++ List.replicate (2 - (lg_sl ([.ref h])).length) Slot.unset).toArray = ls at hl ⊢
  have hl : lv_has ls 2 [(0, .ref h)] := hl
  refine lv_aload_n hx hb dX1_mean_0 rfl (lv_at hl 0 rfl) ?_
  refine va_get (D := (dC, dI)) (ci := 1) (v := .ref r1) (C := RX1) (T := TX1) (N := 6) hx hb hts hinX1 hown hK hP 0 rfl rfl 0 (by decide) (hts (.fieldLink RX1 10 "WrestleBook" "roster" "LWrestleBook$Roster;") (by decide +kernel)) (fun _ h9 => h9) rfl dX1_mean_1 ?_
  refine vp_callSi (W.runV (As := []) (rest := []) ⟨hx, hb, hml, hown, hts⟩ (c_X0_size l dC dI cI r1 d1 n F) (cwV 0 hts gX1_mean_X0_size rfl rfl rfl (by decide +kernel) ⟨Nat.le_of_ble_eq_true rfl, Nat.le_of_ble_eq_true rfl⟩) ⟨PR.blind, va_recv hK hP (ci := 0) (q0 := 2) rfl rfl, fun U hU hW => ⟨rfl, PR.go (hP.sub (ws' := (wR r1 d1 cI n F)) [2, 3, 4, 5, 6, 7, 8, 9] rfl) hK hE hS hU hW⟩⟩ rfl rfl hl.1 rfl (lv_room (Nat.le_of_ble_eq_true rfl)) dX1_mean_4 ⟨Nat.le_of_ble_eq_true rfl, Nat.le_of_ble_eq_true rfl⟩) (fun r hr0 => ?_)
  subst hr0
  refine lv_istore_n (lv' := [(1, .int (nI n)), (0, .ref h)]) hx hb dX1_mean_7 rfl hl (by decide) rfl (fun ls hl => ?_)
  refine lv_iload_n hx hb dX1_mean_8 rfl (lv_at hl 0 rfl) ?_
  refine lv_if_ne (tgt := 16) hx hb dX1_mean_9 (by decide) (fun c_9 => ?_) (fun c_9 => ?_)
  · have hn0 : ¬ n = 0 := fun q => c_9 (by rw [q]; rfl)
    refine lv_aload_n hx hb dX1_mean_16 rfl (lv_at hl 1 rfl) ?_
    refine va_get (D := (dC, dI)) (ci := 1) (v := .ref r1) (C := RX1) (T := TX1) (N := 6) hx hb hts hinX1 hown hK hP 0 rfl rfl 0 (by decide) (hts (.fieldLink RX1 10 "WrestleBook" "roster" "LWrestleBook$Roster;") (by decide +kernel)) (fun _ h9 => h9) rfl dX1_mean_17 ?_
    refine vp_callSi (W.runV (As := []) (rest := []) ⟨hx, hb, hml, hown, hts⟩ (c_X0_sumOfRatings l dC dI cI r1 d1 n F hn) (cwV 0 hts gX1_mean_X0_sumOfRatings rfl rfl rfl (by decide +kernel) ⟨Nat.le_of_ble_eq_true rfl, Nat.le_of_ble_eq_true rfl⟩) ⟨PR.blind, va_recv hK hP (ci := 0) (q0 := 2) rfl rfl, fun U hU hW => ⟨rfl, PR.go (hP.sub (ws' := (wR r1 d1 cI n F)) [2, 3, 4, 5, 6, 7, 8, 9] rfl) hK hE hS hU hW⟩⟩ rfl rfl hl.1 rfl (lv_room (Nat.le_of_ble_eq_true rfl)) dX1_mean_20 ⟨Nat.le_of_ble_eq_true rfl, Nat.le_of_ble_eq_true rfl⟩) (fun r hr0 => ?_)
    subst hr0
    refine lv_i2d hx hb dX1_mean_23 ?_
    refine lv_iload_n hx hb dX1_mean_24 rfl (lv_at hl 0 rfl) ?_
    refine lv_i2d hx hb dX1_mean_25 ?_
    refine lv_ddiv hx hb dX1_mean_26 (hne hn0) ?_
    exact W.dret (v := FP.ddiv (FP.i2d (s_sum n F)) (FP.i2d (nI n))) hx hb hr (fun t ht hW => ⟨_, rfl, (show FP.ddiv (FP.i2d (s_sum n F)) (FP.i2d (nI n)) = s_mean n F from by rw [s_mean, if_neg hn0]), ht⟩) hS.2.2 dX1_mean_27
  · have hn0 : n = 0 := (nI_eq (by omega) (by decide)).mp c_9
    refine lv_dconst0 hx hb dX1_mean_12 ?_
    refine lv_goto (tgt := 27) hx hb dX1_mean_13 (by decide) ?_
    exact W.dret (v := FP.dconst0) hx hb hr (fun t ht hW => ⟨_, rfl, (show FP.dconst0 = s_mean n F from by rw [s_mean, if_pos hn0]), ht⟩) hS.2.2 dX1_mean_27
